import java.io.IOException;
import java.lang.reflect.InvocationTargetException;
import java.lang.reflect.Method;
import java.lang.reflect.Modifier;
import java.nio.file.Files;
import java.nio.file.Path;
import java.util.ArrayList;
import java.util.HashMap;
import java.util.List;
import java.util.Map;
import java.util.regex.Matcher;
import java.util.regex.Pattern;
import java.util.stream.Stream;

/** README.md says nothing that the class does not do: its example, its calls, and the tests that it names. */
public final class ReadmeTest {
    private static final Path README = Path.of("README.md");
    private static final Path SOURCE = Path.of("src/main/java/HandleHeap.java");
    private static final Path TESTS = Path.of("src/test/java");

    /** A line of the example such as "int a = heap.ask(9, false);  // 0: why"; the variable and the reason may lack. */
    private static final Pattern LINE = Pattern.compile("(?:(?:int|boolean) (\\w+) = )?heap\\.(\\w+)\\((.*)\\);"
            + " +// (throws \\w+|[\\w-]+)(?:: .*)?");

    /** The text of a call: "- `int drop(int handle)` and what it does", up to the next call or heading. */
    private static final Pattern CALL = Pattern.compile("^- `(\\w+ (\\w+)\\([^`]*\\))`(.*?)(?=^- `|^#|^[A-Z][a-z ]+:$)",
            Pattern.MULTILINE | Pattern.DOTALL);

    private static final Check CHECK = new Check();

    private final String text;
    private final String source;

    private ReadmeTest() throws IOException {
        text = Files.readString(README);
        source = Files.readString(SOURCE).replaceAll("\\s+", " ");
    }

    // The example.

    private List<String> exampleLines() {
        List<String> lines = new ArrayList<>();
        Matcher block = Pattern.compile("^```java\n(.*?)^```$", Pattern.MULTILINE | Pattern.DOTALL).matcher(text);
        CHECK.due("README.md has an example", block.find(), true);
        lines.addAll(block.group(1).lines().toList());
        CHECK.due("README.md has one example", block.find(), false);
        return lines;
    }

    private static Method method(String name) {
        for (Method m : HandleHeap.class.getDeclaredMethods()) {
            if (m.getName().equals(name) && Modifier.isPublic(m.getModifiers())) {
                return m;
            }
        }
        throw new AssertionError("no such call: " + name);
    }

    private static Object value(String word, Map<String, Object> variables) {
        if (variables.containsKey(word)) {
            return variables.get(word);
        }
        return word.equals("true") || word.equals("false") ? (Object) Boolean.valueOf(word) : Integer.valueOf(word);
    }

    private static Object[] values(String list, Map<String, Object> variables) {
        return list.isEmpty() ? new Object[0] : Stream.of(list.split(", ")).map(w -> value(w, variables)).toArray();
    }

    private static Object answer(HandleHeap heap, String call, Object[] arguments) throws IllegalAccessException {
        try {
            return method(call).invoke(heap, arguments);
        } catch (InvocationTargetException e) {
            return "throws " + e.getCause().getClass().getSimpleName();
        }
    }

    private static String due(String word) {
        return word.equals("NONE") ? "-1" : word.equals("EMPTY") ? "-2" : word;
    }

    private void example() throws IllegalAccessException {
        List<String> lines = exampleLines();
        CHECK.due("the example begins", lines.get(0), "HandleHeap heap = new HandleHeap();");
        HandleHeap heap = new HandleHeap();
        Map<String, Object> variables = new HashMap<>();
        for (String line : lines.subList(1, lines.size())) {
            Matcher m = LINE.matcher(line);
            if (!m.matches()) {
                CHECK.due("the example can be read", line, "");
                continue;
            }
            Object answer = answer(heap, m.group(2), values(m.group(3), variables));
            CHECK.due("the example: " + line, "" + answer, due(m.group(4)));
            variables.put(m.group(1), answer);
        }
    }

    // The calls.

    private static List<String> exceptions(Method m) {
        return Stream.of(m.getExceptionTypes()).map(Class::getSimpleName).toList();
    }

    private static List<String> exceptions(String words) {
        return Pattern.compile("`(\\w+Exception)`").matcher(words).results().map(r -> r.group(1)).toList();
    }

    private void calls() {
        List<String> told = new ArrayList<>();
        Matcher call = CALL.matcher(text);
        while (call.find()) {
            Method m = method(call.group(2));
            String what = "README.md on " + call.group(1);
            CHECK.due(what + ": the class has it so", source.contains(" public " + call.group(1) + " "), true);
            CHECK.due(what + ": it throws", exceptions(call.group(3)).toString(), exceptions(m).toString());
            CHECK.due(what + ": it says what is answered", call.group(3).matches("(?s).*\\b[Aa]nswers\\b.*"), true);
            told.add(m.getName());
        }
        List<String> all = Stream.of(HandleHeap.class.getDeclaredMethods())
                .filter(m -> Modifier.isPublic(m.getModifiers())).map(Method::getName).sorted().toList();
        CHECK.due("the calls that README.md tells of", told.stream().sorted().toList().toString(), all.toString());
    }

    private void constants() {
        CHECK.due("NONE", text.contains("`HandleHeap.NONE` is " + HandleHeap.NONE + " "), true);
        CHECK.due("EMPTY", text.contains("`HandleHeap.EMPTY` is " + HandleHeap.EMPTY + "."), true);
    }

    // The tests.

    private void tests() throws IOException {
        try (Stream<Path> files = Files.list(TESTS)) {
            for (Path file : files.toList()) {
                String name = file.getFileName().toString().replace(".java", "");
                CHECK.due("README.md tells of " + name, text.contains("`" + name + "`"), true);
            }
        }
        CHECK.due("README.md tells of .ci/run", text.contains("\n.ci/run\n"), true);
        CHECK.due(".ci/run can be run", Files.isExecutable(Path.of(".ci/run")), true);
    }

    public static void main(String[] args) throws IOException, IllegalAccessException {
        ReadmeTest readme = new ReadmeTest();
        readme.example();
        readme.calls();
        readme.constants();
        readme.tests();
        CHECK.finish();
    }
}
