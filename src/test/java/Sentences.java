import java.util.ArrayList;
import java.util.LinkedHashMap;
import java.util.List;
import java.util.Map;
import java.util.function.BiFunction;
import java.util.function.Function;

/**
 * Checks that stand for sentences of the document: each check is told with its sentence, and a sentence of "Terms" or
 * of a promise without a check counts as wrong, so that none is forgotten.
 */
final class Sentences {
    /** Checks of one or more sentences. */
    interface Test {
        void run() throws ReflectiveOperationException;
    }

    private final Check check = new Check();
    /** By section, each sentence with the number of its checks. */
    private final Map<String, Map<String, Integer>> sections = new LinkedHashMap<>();
    private String section;
    private String sentence;

    Sentences(String document) {
        for (String part : document.split("\n(?=## )")) {
            String[] headAndBody = part.split("\n", 2);
            String head = headAndBody[0].replaceAll("^## |:.*", "");
            if (head.equals("Terms") || head.startsWith("Promise ")) {
                sections.put(head, sentencesOf(headAndBody[1], head.equals("Terms")));
            }
        }
        check.is("the sections of the document", sections.size(), 43);
    }

    private static Map<String, Integer> sentencesOf(String body, boolean hasHeadings) {
        Map<String, Integer> sentences = new LinkedHashMap<>();
        for (String paragraph : body.strip().split("\n\\s*\n|\n(?=- )")) {
            String text = paragraph.replace('\n', ' ').replaceAll("^`[^`]*`: ", "");
            String[] found = text.split("(?<=\\.) +(?=[A-Z])");
            for (int i = hasHeadings && isHeading(found[0]) ? 1 : 0; i < found.length; i++) {
                sentences.put(found[i], 0);
            }
        }
        return sentences;
    }

    /** Paragraphs of "Terms" begin with a heading such as "Renewals and releases." */
    private static boolean isHeading(String text) {
        return text.split(" ").length <= 3;
    }

    void terms() {
        section = "Terms";
        sentence = null;
    }

    void promise(int number) {
        section = "Promise " + number;
        sentence = null;
    }

    /** The checks that follow stand for the sentence of this section that begins so. */
    void says(String beginning) {
        List<String> found = new ArrayList<>();
        for (String each : sections.get(section).keySet()) {
            if (each.startsWith(beginning)) {
                found.add(each);
            }
        }
        check.is(section + ": sentences that begin with " + beginning, found.size(), 1);
        sentence = found.isEmpty() ? null : found.get(0);
    }

    /** A call that throws where an answer is due ends this test as wrong, and the others go on. */
    void runs(Test test) {
        try {
            test.run();
        } catch (ReflectiveOperationException | RuntimeException e) {
            check.is(label("ends the test with"), e, "no exception");
        }
    }

    void is(String what, Object got, Object due) {
        check.is(label(what), got, due);
    }

    /** The call throws this exception, and changes nothing. */
    void refuses(LockQuorum x, String what, Class<? extends RuntimeException> due, Function<LockQuorum, Object> call) {
        String before = State.of(x);
        check.fails(label(what), due, () -> call.apply(x));
        check.is(label(what) + ": the state behind a refused call", State.of(x), before);
    }

    /** The call throws this exception for each of these numbers, and changes nothing. */
    void refusesEach(LockQuorum x, int[] wrong, Class<? extends RuntimeException> due,
            BiFunction<LockQuorum, Integer, Object> call) {
        for (int number : wrong) {
            refuses(x, "of " + number, due, y -> call.apply(y, number));
        }
    }

    /** The call gives this answer, and changes nothing. */
    void looks(LockQuorum x, String what, Object due, Function<LockQuorum, Object> call) {
        String before = State.of(x);
        check.is(label(what), call.apply(x), due);
        check.is(label(what) + ": the state behind a look", State.of(x), before);
    }

    private String label(String what) {
        check.is("a sentence is told before " + what, sentence != null, true);
        sections.get(section).merge(String.valueOf(sentence), 1, Integer::sum);
        return "[" + section + ": " + sentence + "] " + what;
    }

    void finish(String suite) {
        int count = 0;
        for (Map.Entry<String, Map<String, Integer>> part : sections.entrySet()) {
            for (Map.Entry<String, Integer> each : part.getValue().entrySet()) {
                check.is("a check of [" + part.getKey() + ": " + each.getKey() + "]", each.getValue() > 0, true);
                count++;
            }
        }
        System.out.println(suite + ": " + count + " sentences");
        check.finish(suite);
    }
}
