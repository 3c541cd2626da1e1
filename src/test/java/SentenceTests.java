import java.lang.reflect.InvocationTargetException;
import java.lang.reflect.Method;
import java.nio.file.Files;
import java.nio.file.Path;
import java.util.ArrayList;
import java.util.Arrays;
import java.util.Comparator;
import java.util.LinkedHashMap;
import java.util.List;
import java.util.Map;
import java.util.Set;

/**
 * Runs the tests of single sentences of the document, and looks whether each sentence has one. What a test quotes must
 * stand in the document, so that a document that is changed is not forgotten here.
 */
public final class SentenceTests {
    private static final Class<?>[] TESTS = {EdgesOfTerms.class, EdgesOfTexts.class, EdgesOfAnswers.class,
        EdgesOfChanges.class};
    private static final List<String> NOT_ASKED = List.of("WhoKnows", "The public face", "Not promised");
    /** Sentences that name no boundary case, and say nothing that other sentences do not say again. */
    private static final Set<String> FREE = Set.of(
            "What persons know of each other's knowledge: facts and worlds, laws, likeness of worlds by person, "
                    + "formulas with knowing and common knowledge, announcements that rule worlds out, sayings that "
                    + "must be known, whispers that tell worlds apart, rounds in which all tell at once whether they "
                    + "know, lies that are refused, and what would be known.",
            "What is known holds in all worlds that are left and alike.",
            "All numbers are integers, if nothing else is told.",
            "- `a`: the first 4 bytes", "- `b`: the next 4 bytes", "- `c`: the next 4 bytes", "- `d`: the next 4 bytes",
            "- `e`: the last 4 bytes", "- `length`: its new length", "Returns it.", "Returns the number.",
            "- `isPerson`: whether of a person, otherwise of a fact", "- `number`: its number", "- `person`: a person",
            "- `fact`: a fact", "- `world`: a world", "- `other`: a world", "Returns a set of facts.",
            "Returns a number.", "Returns a letter of a NAME.", "Returns a number of an act in the LOG.",
            "Returns a byte of the output text.", "Returns a set of worlds.", "Returns a set of persons.", "Returns true if so.",
            "Returns how many.");

    private SentenceTests() {
    }

    public static void main(String[] args) throws Exception {
        Map<String, List<String>> document = sentences();
        List<Says> quotes = new ArrayList<>();
        for (Class<?> type : TESTS) {
            for (Method method : testsOf(type)) {
                Says says = method.getAnnotation(Says.class);
                quotes.add(says);
                Check.same("the document says \"" + says.value() + "\" at " + says.at(), stands(document, says), true);
                run(method, says);
            }
        }
        for (String heading : document.keySet()) {
            for (String sentence : document.get(heading)) {
                // The first sentence of a promise stands behind the head of its method.
                boolean isQuoted = FREE.contains(sentence.replaceAll("^`[a-z].*`: ", ""));
                for (Says says : quotes) {
                    isQuoted |= isAt(heading, says) && sentence.contains(says.value());
                }
                Check.same("a test of \"" + sentence + "\" at " + heading, isQuoted, true);
            }
        }
        Check.end("SentenceTests: " + quotes.size() + " tests of sentences");
    }

    private static List<Method> testsOf(Class<?> type) {
        List<Method> found = new ArrayList<>();
        for (Method method : type.getDeclaredMethods()) {
            if (method.isAnnotationPresent(Says.class)) {
                found.add(method);
            }
        }
        found.sort(Comparator.comparing(Method::getName));
        return found;
    }

    private static void run(Method method, Says says) throws Exception {
        int right = Check.rightCount();
        int wrong = Check.wrongCount();
        try {
            method.invoke(null);
        } catch (InvocationTargetException e) {
            Check.same(method.getName(), e.getCause().toString(), "no exception");
        }
        boolean isTested = Check.rightCount() + Check.wrongCount() > right + wrong;
        Check.same("something is tested by " + method.getName(), isTested, true);
        if (Check.wrongCount() > wrong) {
            System.out.println("  in " + method.getName() + ", of " + says.at() + ": " + says.value());
        }
    }

    private static boolean isAt(String heading, Says says) {
        return heading.equals(says.at()) || heading.startsWith(says.at() + ":") || heading.startsWith(says.at() + ".");
    }

    private static boolean stands(Map<String, List<String>> document, Says says) {
        for (String heading : document.keySet()) {
            for (String sentence : document.get(heading)) {
                if (isAt(heading, says) && sentence.contains(says.value())) {
                    return true;
                }
            }
        }
        return false;
    }

    /** The sentences of the document by their heading; the numbered sections of its terms are headings, too. */
    private static Map<String, List<String>> sentences() throws Exception {
        Map<String, List<String>> found = new LinkedHashMap<>();
        String heading = "";
        boolean isCode = false;
        for (String line : Files.readAllLines(Path.of("../shared/DOC.md"))) {
            if (line.startsWith("```")) {
                isCode = !isCode;
            } else if (line.startsWith("#") || line.matches("[1-9]\\. .*")) {
                heading = line.replaceAll("^#+ ", "");
            } else if (!isCode && !line.isBlank() && !NOT_ASKED.contains(heading)) {
                List<String> sentences = found.computeIfAbsent(heading, name -> new ArrayList<>());
                sentences.addAll(Arrays.asList(line.split("(?<=[.)])\\s+(?=\\(?[A-Z])")));
            }
        }
        return found;
    }
}
