import java.lang.reflect.Constructor;
import java.lang.reflect.Field;
import java.lang.reflect.Method;
import java.lang.reflect.Modifier;
import java.util.Arrays;
import java.util.TreeSet;

/** The public face: just the members of the document, and nothing else that is not private. */
public final class FaceTest {
    private static final String IAE = " IllegalArgumentException";
    private static final String ISE = " IllegalStateException";
    private static final String IOOBE = " IndexOutOfBoundsException";

    private static final String[] FACE = {
        "int NONE = -1",
        "int EMPTY = -2",
        "HandleHeap()",
        "int ask(int boolean)" + IAE,
        "int drop(int)" + IAE,
        "boolean resize(int int)" + IAE,
        "boolean lock(int boolean)" + IAE + ISE,
        "boolean losable(int boolean)" + IAE + ISE,
        "boolean lose(int)" + IAE + ISE,
        "int lift(int)" + IAE + ISE,
        "int slide()",
        "int clear(int)" + IAE,
        "int where(int)" + IAE,
        "int size(int)" + IAE,
        "int put(int int int)" + IAE + ISE + IOOBE,
        "int get(int int)" + IAE + ISE + IOOBE,
        "int owner(int)" + IOOBE,
        "int told(int)" + IAE,
    };

    private static String names(Class<?>[] classes) {
        StringBuilder all = new StringBuilder();
        for (Class<?> c : classes) {
            all.append(' ').append(c.getSimpleName());
        }
        return all.toString();
    }

    private static TreeSet<String> found() throws IllegalAccessException {
        TreeSet<String> found = new TreeSet<>();
        for (Field f : HandleHeap.class.getDeclaredFields()) {
            if (!Modifier.isPrivate(f.getModifiers())) {
                boolean constant = f.getModifiers() == (Modifier.PUBLIC | Modifier.STATIC | Modifier.FINAL);
                found.add(f.getType() + " " + f.getName() + (constant ? " = " + f.getInt(null) : " no constant"));
            }
        }
        for (Constructor<?> c : HandleHeap.class.getDeclaredConstructors()) {
            if (!Modifier.isPrivate(c.getModifiers())) {
                found.add("HandleHeap(" + names(c.getParameterTypes()).trim() + ")");
            }
        }
        for (Method m : HandleHeap.class.getDeclaredMethods()) {
            if (!Modifier.isPrivate(m.getModifiers())) {
                found.add((m.getModifiers() == Modifier.PUBLIC ? "" : "not just public: ") + m.getReturnType() + " "
                        + m.getName() + "(" + names(m.getParameterTypes()).trim() + ")"
                        + names(m.getExceptionTypes()));
            }
        }
        return found;
    }

    public static void main(String[] args) throws IllegalAccessException {
        Check check = new Check();
        check.due("the class is public and final", HandleHeap.class.getModifiers(), Modifier.PUBLIC | Modifier.FINAL);
        check.due("the face", found().toString(), new TreeSet<>(Arrays.asList(FACE)).toString());
        check.finish();
    }
}
