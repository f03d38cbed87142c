import java.lang.reflect.Constructor;
import java.lang.reflect.Field;
import java.lang.reflect.Method;
import java.lang.reflect.Modifier;
import java.util.Arrays;
import java.util.TreeSet;

/** The public face: the document's constants, constructor and methods, and no other member that can be seen. */
public final class FaceTest {
    private static final Due DUE = new Due();

    public static void main(String[] args) {
        DUE.is("NONE", -1, BombFamilies.NONE);
        DUE.is("OUTSIDE", -2, BombFamilies.OUTSIDE);
        DUE.is("STATE", -3, BombFamilies.STATE);
        DUE.is("ROOM", -4, BombFamilies.ROOM);
        DUE.is("public and final", Modifier.PUBLIC | Modifier.FINAL, BombFamilies.class.getModifiers());
        same("fields", fields(), "public static final int NONE", "public static final int OUTSIDE",
            "public static final int STATE", "public static final int ROOM");
        same("constructors", constructors(), "public BombFamilies(long)");
        same("methods", methods(), "public int feed(int, long)", "public int cut(int)", "public int alter(int, int)",
            "public int at(int)", "public int mend()", "public int draw(int, int)", "public int open(int, int, int)",
            "public int place()", "public int out(int)", "public int item(int, int)", "public int shrink(int, int, int)",
            "public int count(int)");
        DUE.end();
    }

    private static void same(String name, TreeSet<String> got, String... want) {
        TreeSet<String> due = new TreeSet<>(Arrays.asList(want));
        DUE.is(name + " " + got + ", due are " + due, 1, got.equals(due) ? 1 : 0);
    }

    private static boolean isSeen(int modifiers, boolean synthetic) {
        return !Modifier.isPrivate(modifiers) && !synthetic;
    }

    private static String text(int modifiers, String type, String name) {
        return (Modifier.toString(modifiers) + " " + type + " " + name).replaceAll(" +", " ");
    }

    private static String list(Class<?>[] types) {
        return Arrays.toString(types).replace('[', '(').replace(']', ')');
    }

    private static TreeSet<String> fields() {
        TreeSet<String> all = new TreeSet<>();
        for (Field f : BombFamilies.class.getDeclaredFields()) {
            if (isSeen(f.getModifiers(), f.isSynthetic())) {
                all.add(text(f.getModifiers(), f.getType().getName(), f.getName()));
            }
        }
        return all;
    }

    private static TreeSet<String> constructors() {
        TreeSet<String> all = new TreeSet<>();
        for (Constructor<?> c : BombFamilies.class.getDeclaredConstructors()) {
            if (isSeen(c.getModifiers(), c.isSynthetic())) {
                all.add(text(c.getModifiers(), "", c.getName() + list(c.getParameterTypes())));
            }
        }
        return all;
    }

    private static TreeSet<String> methods() {
        TreeSet<String> all = new TreeSet<>();
        for (Method m : BombFamilies.class.getDeclaredMethods()) {
            if (isSeen(m.getModifiers(), m.isSynthetic())) {
                all.add(text(m.getModifiers(), m.getReturnType().getName(), m.getName() + list(m.getParameterTypes())));
            }
        }
        return all;
    }
}
