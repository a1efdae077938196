import java.io.IOException;
import java.lang.reflect.Constructor;
import java.lang.reflect.Field;
import java.lang.reflect.Method;
import java.lang.reflect.Modifier;
import java.nio.file.Files;
import java.nio.file.Path;
import java.util.Set;
import java.util.TreeSet;

/** The public face: just the members of the document, as they stand there, and nothing else that is not private. */
public final class FaceTest {
    private static final Path SOURCE = Path.of("src/main/java/HandleHeap.java");

    /** The document's words; reflection does not tell a parameter's name, so the source is looked at too. */
    private static final String CONSTANTS = "public static final int NONE = -1, EMPTY = -2;";
    private static final String[] MEMBERS = {
        "public HandleHeap();",
        "public int ask(int n, boolean fixed) throws IllegalArgumentException;",
        "public int drop(int handle) throws IllegalArgumentException;",
        "public boolean resize(int handle, int n) throws IllegalArgumentException;",
        "public boolean lock(int handle, boolean locks) throws IllegalArgumentException, IllegalStateException;",
        "public boolean losable(int handle, boolean may) throws IllegalArgumentException, IllegalStateException;",
        "public boolean lose(int handle) throws IllegalArgumentException, IllegalStateException;",
        "public int lift(int handle) throws IllegalArgumentException, IllegalStateException;",
        "public int slide();",
        "public int clear(int n) throws IllegalArgumentException;",
        "public int where(int handle) throws IllegalArgumentException;",
        "public int size(int handle) throws IllegalArgumentException;",
        "public int put(int handle, int i, int v) throws IllegalArgumentException, IllegalStateException, "
                + "IndexOutOfBoundsException;",
        "public int get(int handle, int i) throws IllegalArgumentException, IllegalStateException, "
                + "IndexOutOfBoundsException;",
        "public int owner(int at) throws IndexOutOfBoundsException;",
        "public int told(int what) throws IllegalArgumentException;",
    };

    private static final Check CHECK = new Check();

    private static String names(Class<?>[] classes) {
        StringBuilder all = new StringBuilder();
        for (Class<?> c : classes) {
            all.append(all.isEmpty() ? "" : ", ").append(c.getSimpleName());
        }
        return all.toString();
    }

    private static String member(int modifiers, String name, Class<?>[] parameters, Class<?>[] exceptions) {
        String thrown = exceptions.length == 0 ? "" : " throws " + names(exceptions);
        return (Modifier.toString(modifiers) + " " + name).trim() + "(" + names(parameters) + ")" + thrown + ";";
    }

    private static Set<String> membersFound() {
        Set<String> found = new TreeSet<>();
        for (Constructor<?> c : HandleHeap.class.getDeclaredConstructors()) {
            if (!Modifier.isPrivate(c.getModifiers())) {
                found.add(member(c.getModifiers(), c.getName(), c.getParameterTypes(), c.getExceptionTypes()));
            }
        }
        for (Method m : HandleHeap.class.getDeclaredMethods()) {
            if (!Modifier.isPrivate(m.getModifiers())) {
                String name = m.getReturnType() + " " + m.getName();
                found.add(member(m.getModifiers(), name, m.getParameterTypes(), m.getExceptionTypes()));
            }
        }
        return found;
    }

    private static void members() {
        Set<String> due = new TreeSet<>();
        for (String member : MEMBERS) {
            due.add(member.replaceAll("(int|boolean) \\w+(?=[,)])", "$1"));
        }
        CHECK.due("the members that are not private", membersFound().toString(), due.toString());
    }

    private static void constants() throws IllegalAccessException {
        Set<String> found = new TreeSet<>();
        for (Field f : HandleHeap.class.getDeclaredFields()) {
            boolean isStatic = Modifier.isStatic(f.getModifiers());
            if (!Modifier.isPrivate(f.getModifiers())) {
                String value = isStatic ? " = " + f.getInt(null) : " of each object";
                found.add(Modifier.toString(f.getModifiers()) + " " + f.getType() + " " + f.getName() + value);
            }
            CHECK.due(f + " is one for all objects and may change",
                    isStatic && !Modifier.isFinal(f.getModifiers()), false);
        }
        CHECK.due("the fields that are not private", found.toString(),
                "[public static final int EMPTY = -2, public static final int NONE = -1]");
    }

    private static void classItself() {
        Class<?> c = HandleHeap.class;
        CHECK.due("the class", Modifier.toString(c.getModifiers()), "public final");
        CHECK.due("its package", c.getPackageName(), "");
        CHECK.due("what it extends", c.getSuperclass().getSimpleName(), "Object");
        CHECK.due("what it implements", names(c.getInterfaces()), "");
        for (Class<?> inside : c.getDeclaredClasses()) {
            int m = inside.getModifiers();
            CHECK.due(inside + " is a member of the face", Modifier.isPublic(m) || Modifier.isProtected(m), false);
        }
    }

    private static void sourceHasTheWords() throws IOException {
        String source = Files.readString(SOURCE).replaceAll("\\s+", " ");
        CHECK.due("in the source: the class", source.contains(" public final class HandleHeap { "), true);
        CHECK.due("in the source: " + CONSTANTS, source.contains(" " + CONSTANTS + " "), true);
        for (String member : MEMBERS) {
            String words = " " + member.replace(";", " { ");
            CHECK.due("in the source: " + member, source.contains(words), true);
        }
    }

    private static void privateNames() {
        Set<String> names = new TreeSet<>();
        for (Method m : HandleHeap.class.getMethods()) {
            names.add(m.getName());
        }
        for (Method m : HandleHeap.class.getDeclaredMethods()) {
            if (Modifier.isPrivate(m.getModifiers())) {
                CHECK.due(m + " bears the name of a public method", names.contains(m.getName()), false);
            }
        }
    }

    public static void main(String[] args) throws IOException, IllegalAccessException {
        classItself();
        constants();
        members();
        privateNames();
        sourceHasTheWords();
        CHECK.finish();
    }
}
