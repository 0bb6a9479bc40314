import java.io.File;
import java.io.IOException;
import java.lang.reflect.Method;
import java.lang.reflect.Modifier;
import java.nio.file.Files;
import java.nio.file.Path;
import java.util.regex.Matcher;
import java.util.regex.Pattern;

/** README.md does what it says: a reader gets its output by its commands, and finds each call and test. */
public final class ReadmeTest {
    private static final Path PROGRAM = Path.of("src/main/java/PrivateCounts.java");
    private static final Check check = new Check();

    public static void main(String[] args) throws IOException, InterruptedException {
        String readme = Files.readString(Path.of("README.md"));
        printsWhatItSays(readme);
        namesEachCall(readme);
        namesEachTest(readme);
        check.end();
    }

    // In a directory of its own, so that nothing is left in the project.
    private static void printsWhatItSays(String readme) throws IOException, InterruptedException {
        Path directory = Files.createTempDirectory("readme");
        Path program = directory.resolve(PROGRAM);
        Files.createDirectories(program.getParent());
        Files.copy(PROGRAM, program);
        Files.writeString(directory.resolve("Example.java"), block(readme, "java"));
        File output = directory.resolve("output").toFile();
        Process process = new ProcessBuilder("sh", "-e", "-c", block(readme, "sh"))
            .directory(directory.toFile()).redirectOutput(output)
            // Apart from the output: a machine's own java may say there what options it has picked up.
            .redirectError(ProcessBuilder.Redirect.INHERIT).start();
        process.getOutputStream().close();
        check.due("the commands' exit code", process.waitFor(), 0);
        String printed = Files.readString(output.toPath());
        remove(directory.toFile());
        check.due("the example prints " + printed, printed.equals(block(readme, "text")), true);
    }

    /** The text between ```kind and ```. */
    private static String block(String readme, String kind) {
        Matcher matcher = Pattern.compile("(?s)\n```" + kind + "\n(.*?\n)```\n").matcher(readme);
        boolean isThere = matcher.find();
        check.due("there is a block of " + kind, isThere, true);
        return isThere ? matcher.group(1) : "";
    }

    private static void namesEachCall(String readme) {
        for (Method method : PrivateCounts.class.getDeclaredMethods()) {
            if (Modifier.isPublic(method.getModifiers())) {
                check.due("a row tells of " + method, hasRowOf(readme, method), true);
            }
        }
    }

    /** Whether a row begins with the call, names as many arguments, and each exception it throws. */
    private static boolean hasRowOf(String readme, Method method) {
        Matcher matcher = Pattern.compile("(?m)^\\| `" + method.getName() + "\\((.*?)\\)` \\|.*$").matcher(readme);
        if (!matcher.find()) {
            return false;
        }
        String arguments = matcher.group(1);
        int named = arguments.isEmpty() ? 0 : arguments.split(", ").length;
        boolean hasAll = named == method.getParameterCount();
        int exceptions = matcher.group().split("Exception", -1).length - 1;
        for (Class<?> thrown : method.getExceptionTypes()) {
            hasAll &= matcher.group().contains(thrown.getSimpleName());
        }
        return hasAll && exceptions == method.getExceptionTypes().length;
    }

    private static void namesEachTest(String readme) throws IOException {
        int tests = 0;
        for (File file : files(new File("src/test/java"))) {
            String name = file.getName().replace(".java", "");
            if (name.endsWith("Test")) {
                tests++;
                check.due("a row tells of " + name, readme.contains("\n| " + name + " | "), true);
            }
        }
        Matcher rows = Pattern.compile("(?m)^\\| \\w+Test \\| ").matcher(readme);
        check.due("rows of tests", rows.results().count(), tests);
    }

    private static File[] files(File directory) {
        File[] files = directory.listFiles();
        return files == null ? new File[0] : files;
    }

    private static void remove(File file) {
        for (File inside : files(file)) {
            remove(inside);
        }
        check.due("removed " + file, file.delete(), true);
    }
}
