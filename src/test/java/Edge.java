import java.util.ArrayList;
import java.util.List;

/** The test of one sentence of the document that names a boundary case. */
final class Edge {
    interface Test {
        void run() throws Exception;
    }

    /** The words of the document that a promise was tested by. */
    record Quote(int promise, String words) {
        boolean isOf(String sentence) {
            return sentence.contains(words);
        }
    }

    /** In place of a promise's number: what holds for all of them. */
    static final int ALL = 0;
    static final String NO_LEARNER = "Throws IndexOutOfBoundsException if there is no such learner";
    static final String NO_LEARNER_OR_SKILL = "Throws IndexOutOfBoundsException if there is no such learner or skill";
    static final String FIRST_OF_SEVERAL = "If several exceptions apply, the one that is documented first is thrown.";
    static final List<Quote> QUOTES = new ArrayList<>();

    private Edge() {
    }

    static void of(int promise, String words, Test test) {
        Quote quote = new Quote(promise, words);
        QUOTES.add(quote);
        Check.about((promise == ALL ? "promises 1 to 26" : "promise " + promise) + " \"" + words + "\": ");
        Check.same("to stand in the document", true, () -> isInDocument(quote));
        int before = Check.count();
        Check.same("the test", "ends", () -> endOf(test));
        Check.same("to look at something", true, () -> Check.count() > before + 1);
        Check.about("");
    }

    private static boolean isInDocument(Quote quote) {
        return Document.sentencesOfPromise(quote.promise()).stream().anyMatch(quote::isOf)
                || Document.sentencesOfTerms().stream().anyMatch(quote::isOf);
    }

    private static String endOf(Test test) throws Exception {
        test.run();
        return "ends";
    }
}
