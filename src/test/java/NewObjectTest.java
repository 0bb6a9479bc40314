import java.lang.reflect.Constructor;
import java.lang.reflect.Field;
import java.lang.reflect.Method;
import java.lang.reflect.Modifier;
import java.util.Arrays;
import java.util.TreeSet;

/** Promise 1 (a new object), the public face and the two constants. */
public final class NewObjectTest {
    private static final Check check = new Check();

    public static void main(String[] args) {
        startsAsTold();
        keepsNothingOfAnother();
        showsTheFaceAlone();
        check.end();
    }

    private static void startsAsTold() {
        PrivateCounts x = new PrivateCounts();
        int[] told = {0, 0, 0, 0, 0, 10, 1, 2};
        for (int what = 0; what < told.length; what++) {
            check.due("told(" + what + ")", x.told(what), told[what]);
        }
        check.due("all()", x.all(), 3 * 1024);
        check.due("count", x.count(Integer.MIN_VALUE, Integer.MAX_VALUE), 0);
        for (int which = 0; which <= 2; which++) {
            check.due("limb(" + which + ", 0, -1)", x.limb(which, 0, -1), 0);
            check.due("limb(" + which + ", 0, 0)", x.limb(which, 0, 0), PrivateCounts.NONE);
            check.due("limb(" + which + ", 1, -1)", x.limb(which, 1, -1), 1);
            check.due("limb(" + which + ", 1, 0)", x.limb(which, 1, 0), 1);
        }
        check.due("ask at once", x.ask(0, 9, 1, 1, 0), PrivateCounts.REFUSED);
        check.due("told(2)", x.told(2), 1);
        check.due("add at once", new PrivateCounts().add(4), 0);
        check.throwsIndexOutOfBounds("remove at once", () -> new PrivateCounts().remove(0));
    }

    private static void keepsNothingOfAnother() {
        PrivateCounts x = new PrivateCounts();
        x.add(1);
        x.budget(7, 2);
        x.table(2, 3, -4, 4);
        PrivateCounts y = new PrivateCounts();
        check.due("rows of another", y.told(3), 0);
        check.due("budget of another", y.limb(0, 0, -1), 0);
        check.due("table of another", y.all(), 3072);
    }

    private static void showsTheFaceAlone() {
        check.due("NONE", PrivateCounts.NONE, -1);
        check.due("REFUSED", PrivateCounts.REFUSED, Integer.MIN_VALUE);
        Class<?> face = PrivateCounts.class;
        check.due("public final", Modifier.isPublic(face.getModifiers())
            && Modifier.isFinal(face.getModifiers()), true);
        TreeSet<String> seen = new TreeSet<>();
        for (Field field : face.getDeclaredFields()) {
            if (!Modifier.isPrivate(field.getModifiers())) {
                seen.add(field.toString());
            }
        }
        for (Constructor<?> constructor : face.getDeclaredConstructors()) {
            seen.add(constructor.toString());
        }
        for (Method method : face.getDeclaredMethods()) {
            if (!Modifier.isPrivate(method.getModifiers())) {
                seen.add(method.toString());
            }
        }
        TreeSet<String> due = new TreeSet<>(Arrays.asList(
            "public static final int PrivateCounts.NONE",
            "public static final int PrivateCounts.REFUSED",
            "public PrivateCounts()",
            "public int PrivateCounts.add(int)",
            "public int PrivateCounts.remove(int) throws java.lang.IndexOutOfBoundsException",
            "public int PrivateCounts.count(int,int)",
            "public long PrivateCounts.table(int,int,int,int) throws java.lang.IllegalArgumentException",
            "public long PrivateCounts.all()",
            "public long PrivateCounts.weight(int,int)",
            "public long PrivateCounts.upTo(int,int)",
            "public int PrivateCounts.draw(int,long) throws java.lang.IllegalArgumentException",
            "public boolean PrivateCounts.isNear(int,int) throws java.lang.IllegalArgumentException",
            "public void PrivateCounts.budget(int,int) throws java.lang.IllegalArgumentException",
            "public void PrivateCounts.raise(int,int) throws java.lang.IllegalArgumentException",
            "public boolean PrivateCounts.isEnough(int,int) throws java.lang.IllegalArgumentException",
            "public int PrivateCounts.least(int) throws java.lang.IllegalArgumentException",
            "public int PrivateCounts.ask(int,int,int,int,long) throws java.lang.IllegalArgumentException",
            "public int PrivateCounts.limb(int,int,int) throws java.lang.IndexOutOfBoundsException",
            "public int PrivateCounts.told(int) throws java.lang.IndexOutOfBoundsException"));
        check.due("the face " + seen, seen.equals(due), true);
    }
}
