import java.lang.reflect.Constructor;
import java.lang.reflect.Field;
import java.lang.reflect.Method;
import java.lang.reflect.Modifier;
import java.util.Arrays;
import java.util.TreeSet;

/** The public face, and rule 1 of LANGUAGE.md: nothing but the face is seen from outside. */
public final class FaceTest {
    private static final String[] METHODS = {
        "int request(int, int, int, int, int) throws IllegalArgumentException, IllegalStateException",
        "void cancel(int) throws IndexOutOfBoundsException, IllegalStateException",
        "int state(int) throws IndexOutOfBoundsException",
        "int planFrom(int) throws IndexOutOfBoundsException",
        "int planTo(int) throws IndexOutOfBoundsException",
        "void air(int, int) throws IndexOutOfBoundsException",
        "int tick()",
        "int ticks(int) throws IllegalArgumentException",
        "int now()",
        "int watch(int) throws IndexOutOfBoundsException",
        "long back(int)",
        "long word(int, int) throws IndexOutOfBoundsException",
        "int recorded(int) throws IndexOutOfBoundsException",
        "int shortBy(int) throws IndexOutOfBoundsException",
        "void protect(int, boolean) throws IndexOutOfBoundsException, IllegalStateException",
        "void seen(int, boolean) throws IndexOutOfBoundsException, IllegalStateException",
        "int erase(int) throws IndexOutOfBoundsException, IllegalStateException",
        "int free()",
        "int bookmark(int, int) throws IndexOutOfBoundsException, IllegalArgumentException, IllegalStateException",
        "int bookmarkAt(int, int) throws IndexOutOfBoundsException",
        "int cut(int) throws IllegalArgumentException",
    };
    private static final String[] CONSTANTS = {
        "WAITING=0", "RUNNING=1", "FINISHED=2", "MISSED=3", "CANCELLED=4", "ERASED=5", "NONE=-1",
    };

    public static void main(String[] args) throws IllegalAccessException {
        int form = TwinTuners.class.getModifiers();
        Check.same("the class", Modifier.toString(form), "public final");
        constructors();
        methods();
        fields();
        for (Class<?> inside : TwinTuners.class.getDeclaredClasses()) {
            int bits = inside.getModifiers();
            if (Modifier.isPublic(bits) || Modifier.isProtected(bits) || !Modifier.isStatic(bits)) {
                Check.report(inside + " is not a hidden static class");
            }
        }
        Check.end();
    }

    private static void constructors() {
        Constructor<?>[] all = TwinTuners.class.getDeclaredConstructors();
        Check.due("constructors", all.length, 1);
        Check.same("the constructor", all[0].toString(), "public TwinTuners()");
    }

    private static void methods() {
        TreeSet<String> due = new TreeSet<>(Arrays.asList(METHODS));
        TreeSet<String> dueNames = new TreeSet<>();
        for (String method : METHODS) {
            dueNames.add(method.substring(method.indexOf(' ') + 1, method.indexOf('(')));
        }
        TreeSet<String> got = new TreeSet<>();
        for (Method m : TwinTuners.class.getDeclaredMethods()) {
            boolean isPrivate = Modifier.isPrivate(m.getModifiers());
            if (isPrivate && dueNames.contains(m.getName())) {
                Check.report("a private method is named " + m.getName());
            }
            if (!isPrivate) {
                got.add(written(m));
            }
        }
        Check.same("the methods", got.toString(), due.toString());
    }

    private static String written(Method m) {
        String text = m.toString().replace("java.lang.", "").replace("TwinTuners.", "");
        text = text.replace(",", ", ").replace("public ", "");
        return text;
    }

    private static void fields() throws IllegalAccessException {
        TreeSet<String> got = new TreeSet<>();
        for (Field f : TwinTuners.class.getDeclaredFields()) {
            if (!Modifier.isPrivate(f.getModifiers())) {
                Check.same(f.getName(), Modifier.toString(f.getModifiers()), "public static final");
                got.add(f.getName() + "=" + f.getInt(null));
            }
            if (Modifier.isStatic(f.getModifiers()) && !Modifier.isFinal(f.getModifiers())) {
                Check.report(f + " is static state");
            }
        }
        Check.same("the constants", got.toString(), new TreeSet<>(Arrays.asList(CONSTANTS)).toString());
    }
}
