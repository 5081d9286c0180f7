import java.io.IOException;
import java.lang.reflect.InvocationTargetException;
import java.lang.reflect.Method;
import java.util.ArrayList;
import java.util.Arrays;
import java.util.Comparator;
import java.util.List;
import java.util.Map;
import java.util.TreeMap;
import java.util.regex.Pattern;

/**
 * Runs a test for each sentence of the document that names a boundary case, each for itself, and looks whether the
 * sentences of all tests are the document's, and all of its promises and of what stands before them.
 */
public final class SentencesTest {
    private static final Class<?>[] TESTS = {
        SentencesOfWhatItIs.class, SentencesOfTerms.class, Sentences1To4.class, Sentences5To8.class,
        Sentences9To11.class, Sentences12To14.class, Sentences15To17.class,
    };

    private static final Pattern TESTED = Pattern.compile("What it is|Terms|Promise \\d+");

    private final Due due = new Due("SentencesTest");
    private final Map<String, List<String>> quotes = new TreeMap<>();
    private final Document document;
    private int tests = 0;

    private SentencesTest() throws IOException {
        document = new Document();
    }

    public static void main(String[] args) throws IOException {
        SentencesTest all = new SentencesTest();
        for (Class<?> group : TESTS) {
            Method[] methods = group.getDeclaredMethods();
            Arrays.sort(methods, Comparator.comparing(Method::getName));
            for (Method method : methods) {
                if (method.isAnnotationPresent(Sentence.class)) {
                    all.run(method);
                }
            }
        }
        all.lookForSentencesWithoutTest();
        System.out.println("SentencesTest: " + all.tests + " tests of sentences");
        all.due.end();
    }

    private void run(Method method) {
        Sentence sentence = method.getAnnotation(Sentence.class);
        due.part(method.getName() + " (" + sentence.of() + ", \"" + sentence.words() + "\")");
        due.is("how often the document has these words", 1, () -> document.times(sentence.of(), sentence.words()));
        quotes.computeIfAbsent(sentence.of(), h -> new ArrayList<>()).add(sentence.words());
        tests++;
        int ahead = due.answers();
        due.same("the test", "ends", end(method));
        due.is("the test compares something", true, () -> due.answers() > ahead + 1);
    }

    /** A call that throws where no test looks for it must not keep the other tests from being run. */
    private String end(Method method) {
        try {
            method.invoke(null, due);
            return "ends";
        } catch (InvocationTargetException e) {
            return "throws " + e.getCause();
        } catch (IllegalAccessException e) {
            return "is not visible";
        }
    }

    private void lookForSentencesWithoutTest() {
        for (String heading : document.headings()) {
            if (TESTED.matcher(heading).matches()) {
                due.part(heading);
                due.is("words that no test quotes", "",
                        () -> document.unquoted(heading, quotes.getOrDefault(heading, List.of())));
            }
        }
    }
}
