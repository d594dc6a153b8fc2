import java.util.Map;
import java.util.Set;
import java.util.TreeSet;

/** Compares answers with those that are due, prints each that differs, and ends a test. */
final class Due {
    private int asked = 0;
    private int wrong = 0;
    private int sentences = 0;
    private String sentence = "";

    /** A test of one sentence of the document: it must ask something, and what differs is told by its words. */
    void sentence(String words, Runnable test) {
        int askedBefore = asked;
        sentence = "\"" + words + "\": ";
        sentences++;
        test.run();
        holds("something is asked of it", asked > askedBefore);
        sentence = "";
    }

    void due(String call, long got, long want) {
        asked++;
        if (got != want) {
            wrong++;
            System.out.println(sentence + call + " answered " + got + ", due is " + want);
        }
    }

    void holds(String what, boolean so) {
        asked++;
        if (!so) {
            wrong++;
            System.out.println(sentence + "is not so: " + what);
        }
    }

    /** Every question of both states; one that a state lacks is an answer that differs too. */
    void alike(String behind, Map<String, Long> got, Map<String, Long> want) {
        Set<String> questions = new TreeSet<>(got.keySet());
        questions.addAll(want.keySet());
        for (String question : questions) {
            boolean so = got.containsKey(question) && got.get(question).equals(want.get(question));
            String told = question + " answered " + got.get(question) + ", due is " + want.get(question);
            holds(behind + ", then " + told, so);
        }
    }

    int wrong() {
        return wrong;
    }

    void end(String test) {
        String of = sentences == 0 ? "" : " on " + sentences + " sentences";
        System.out.println(test + ": " + asked + " answers" + of + ", " + wrong + " of them not as due");
        if (wrong != 0 || asked == 0) {
            System.exit(1);
        }
    }
}
