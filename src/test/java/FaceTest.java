import java.lang.reflect.Constructor;
import java.lang.reflect.Field;
import java.lang.reflect.Method;
import java.lang.reflect.Modifier;
import java.util.Set;
import java.util.TreeSet;

/** The class has the face of the document and nothing else that others can see. */
public final class FaceTest {
    public static void main(String[] args) {
        Set<String> want = new TreeSet<>(Set.of(
            "public static final int NOTSHOWN", "public static final int NOCODE", "public static final int BAD",
            "public CellFormatter()", "public boolean feed(char)", "public void erase()", "public int compile()",
            "public int sections()", "public int kind(int)", "public void calendar(boolean)",
            "public int show(long)", "public char charAt(int)", "public int section()",
            "public int date(int,int)", "public int serial(int,int,int)"));
        Check.due("the face", visible().toString(), want.toString());
        Check.due("modifiers", Modifier.toString(CellFormatter.class.getModifiers()), "public final");
        Check.due("NOTSHOWN", CellFormatter.NOTSHOWN, -1);
        Check.due("NOCODE", CellFormatter.NOCODE, -2);
        Check.due("BAD", CellFormatter.BAD, -3);
        nestedClassesAreStatic();
        noNestedMethodBearsAPublicName();
        Check.end();
    }

    private static Set<String> visible() {
        Set<String> found = new TreeSet<>();
        for (Field f : CellFormatter.class.getDeclaredFields()) {
            if (!Modifier.isPrivate(f.getModifiers())) {
                found.add(f.toString().replace("CellFormatter.", ""));
            }
        }
        for (Constructor<?> c : CellFormatter.class.getDeclaredConstructors()) {
            if (!Modifier.isPrivate(c.getModifiers())) {
                found.add(c.toString());
            }
        }
        for (Method m : CellFormatter.class.getDeclaredMethods()) {
            if (!Modifier.isPrivate(m.getModifiers())) {
                found.add(m.toString().replace("CellFormatter.", ""));
            }
        }
        return found;
    }

    private static void nestedClassesAreStatic() {
        for (Class<?> c : CellFormatter.class.getDeclaredClasses()) {
            int m = c.getModifiers();
            Check.due(c + " is static", Modifier.isStatic(m), true);
            Check.due(c + " is not public", Modifier.isPublic(m) || Modifier.isProtected(m), false);
        }
    }

    private static void noNestedMethodBearsAPublicName() {
        Set<String> names = new TreeSet<>();
        for (Method m : CellFormatter.class.getDeclaredMethods()) {
            if (Modifier.isPublic(m.getModifiers())) {
                names.add(m.getName());
            }
        }
        for (Class<?> c : CellFormatter.class.getDeclaredClasses()) {
            for (Method m : c.getDeclaredMethods()) {
                Check.due(m + " bears a public name", names.contains(m.getName()), false);
            }
        }
    }
}
