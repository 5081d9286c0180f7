import java.io.IOException;
import java.lang.reflect.InvocationTargetException;
import java.lang.reflect.Method;
import java.lang.reflect.Modifier;
import java.nio.file.Files;
import java.nio.file.Path;
import java.util.ArrayList;
import java.util.List;
import java.util.Set;
import java.util.TreeSet;
import java.util.regex.Matcher;
import java.util.regex.Pattern;
import java.util.stream.Collectors;
import java.util.stream.Stream;

/** Each call that README.md shows answers what README.md says, and its way to run the tests runs them all. */
public final class ReadmeTest {
    private static final Path README = Path.of("README.md");
    private static final Path TESTS = Path.of("src", "test", "java");
    private static final Path SCRIPT = Path.of(".ci", "run");

    private static final Pattern NEW_STORE = Pattern.compile("BoardStore store = new BoardStore\\((-?\\d+)\\);");
    private static final Pattern CALL =
            Pattern.compile("store\\.(\\w+)\\(([-\\d, ]*)\\);\\s+// (throws \\w+|true|false|NONE|-?\\d+)(: .+)?");

    private final Due due = new Due("ReadmeTest");
    private final Set<String> shown = new TreeSet<>();
    private BoardStore store = null;

    public static void main(String[] args) throws IOException {
        ReadmeTest test = new ReadmeTest();
        test.makeCallsOfExamples(examples("java"));
        test.lookForCallsWithoutExample();
        test.lookForTestsLeftOut();
        test.due.end();
    }

    /** The lines of the README's blocks of that language, one after the other. */
    private static List<String> examples(String language) throws IOException {
        List<String> lines = new ArrayList<>();
        boolean inside = false;
        for (String line : Files.readAllLines(README)) {
            if (line.startsWith("```")) {
                inside = line.equals("```" + language);
            } else if (inside) {
                lines.add(line);
            }
        }
        return lines;
    }

    private void makeCallsOfExamples(List<String> lines) {
        due.part("README.md, examples");
        for (String line : lines) {
            Matcher made = NEW_STORE.matcher(line);
            Matcher call = CALL.matcher(line);
            if (made.matches()) {
                store = new BoardStore(Integer.parseInt(made.group(1)));
            } else if (call.matches()) {
                shown.add(call.group(1));
                due.same(line, call.group(3), answer(call.group(1), call.group(2)));
            } else {
                due.same(line, "a call with its answer", "a line that can't be compared");
            }
        }
    }

    private String answer(String name, String arguments) {
        Object[] numbers = Stream.of(arguments.split(", ")).filter(a -> !a.isEmpty()).map(Integer::valueOf).toArray();
        for (Method method : BoardStore.class.getDeclaredMethods()) {
            if (isOfFace(method) && method.getName().equals(name) && method.getParameterCount() == numbers.length) {
                return answer(method, numbers);
            }
        }
        return "there is no such call";
    }

    private String answer(Method method, Object[] numbers) {
        try {
            Object got = method.invoke(store, numbers);
            return got.equals(BoardStore.NONE) ? "NONE" : got.toString();
        } catch (InvocationTargetException e) {
            return "throws " + e.getCause().getClass().getSimpleName();
        } catch (IllegalAccessException e) {
            return "is not visible";
        }
    }

    private void lookForCallsWithoutExample() {
        due.part("README.md, calls with an example");
        Set<String> face = Stream.of(BoardStore.class.getDeclaredMethods()).filter(ReadmeTest::isOfFace)
                .map(Method::getName).collect(Collectors.toCollection(TreeSet::new));
        due.same("all", face.toString(), shown.toString());
    }

    private static boolean isOfFace(Method method) {
        return Modifier.isPublic(method.getModifiers());
    }

    private void lookForTestsLeftOut() throws IOException {
        due.part("README.md, tests");
        due.same("the way to run the tests", List.of(SCRIPT.toString()).toString(), examples("sh").toString());
        due.is(SCRIPT + " can be executed", true, () -> Files.isExecutable(SCRIPT));
        String script = Files.readString(SCRIPT);
        due.is(SCRIPT + " runs the classes whose names end in Test", true, () -> script.contains("/*Test.java; do"));
        String readme = Files.readString(README);
        String runner = Files.readString(TESTS.resolve("SentencesTest.java"));
        for (String file : filesOfTests()) {
            String name = file.replace(".java", "");
            String text = Files.readString(TESTS.resolve(file));
            due.is(file + " is named", true, () -> readme.contains("`" + name + "`"));
            due.is(file + " is run", text.contains("public static void main("), () -> name.endsWith("Test"));
            due.is(file + " is run by SentencesTest", text.contains("\n    @Sentence("),
                    () -> runner.contains(" " + name + ".class"));
        }
    }

    private static List<String> filesOfTests() throws IOException {
        try (Stream<Path> files = Files.list(TESTS)) {
            return files.map(f -> f.getFileName().toString()).sorted().collect(Collectors.toList());
        }
    }
}
