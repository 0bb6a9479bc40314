import java.io.IOException;
import java.lang.reflect.Field;
import java.lang.reflect.Method;
import java.lang.reflect.Modifier;
import java.nio.file.Files;
import java.nio.file.Path;
import java.util.regex.Matcher;
import java.util.regex.Pattern;

/** Some rules of LANGUAGE.md that a look at the text shows; it runs where src stands. */
public final class LanguageTest {
    private static final Check check = new Check();
    private static final String FACE =
        "add|remove|count|table|all|weight|upTo|draw|isNear|budget|raise|isEnough|least|ask|limb|told";

    public static void main(String[] args) throws IOException {
        String text = Files.readString(Path.of("src/main/java/PrivateCounts.java"));
        String code = withoutComments(text);
        hasNone(text, "[^\\x0a\\x20-\\x7e]", "signs other than plain ones");
        hasNone(code, "\\b(import|package|try|catch|finally|synchronized|assert|volatile|native)\\b", "rules 4, 6");
        hasNone(code, "->|::|@", "rule 2");
        hasNone(code, "\\b(System|Thread|Runtime|Object|BigInteger|BigDecimal|float|double)\\b", "rules 3, 4, 13");
        hasNone(code, "\\b(equals|hashCode|toString)\\b", "rule 6");
        hasNone(code, "\\bprivate\\s+(static\\s+)?\\w+\\s+(" + FACE + ")\\s*\\(", "rule 1");
        hasNone(code, "\\bthrow\\s+(?!new (IllegalArgumentException|IndexOutOfBoundsException)\\()", "rule 6");
        check.due("classes inside are private, static and final",
            matches(code, "private static final class \\w+"), matches(code, "\\bclass \\w+") - 1);
        hasNone(code, "\"\\s*\\+|\\+\\s*\"", "rule 10");
        Class<?>[] inside = PrivateCounts.class.getDeclaredClasses();
        check.due("rule 11: at most twelve classes", inside.length < 12, true);
        keepsToTheSizes(PrivateCounts.class);
        for (Class<?> one : inside) {
            keepsToTheSizes(one);
        }
        check.end();
    }

    private static void keepsToTheSizes(Class<?> one) {
        int fields = 0;
        for (Field field : one.getDeclaredFields()) {
            boolean isStatic = Modifier.isStatic(field.getModifiers());
            check.due("rule 5: " + field + " is final", !isStatic || Modifier.isFinal(field.getModifiers()), true);
            fields += isStatic ? 0 : 1;
        }
        check.due("rule 11: fields of " + one, fields <= 20, true);
        for (Method method : one.getDeclaredMethods()) {
            check.due("rule 11: parameters of " + method, method.getParameterCount() <= 7, true);
        }
    }

    private static String withoutComments(String text) {
        return text.replaceAll("(?s)/\\*.*?\\*/", " ").replaceAll("//[^\n]*", " ")
            .replaceAll("\"[^\"\n]*\"", "\"\"");
    }

    private static void hasNone(String code, String pattern, String what) {
        Matcher matcher = Pattern.compile(pattern).matcher(code);
        check.due(what + (matcher.find() ? ": " + matcher.group() : ""), matches(code, pattern), 0);
    }

    private static int matches(String code, String pattern) {
        Matcher matcher = Pattern.compile(pattern).matcher(code);
        int found = 0;
        while (matcher.find()) {
            found++;
        }
        return found;
    }
}
