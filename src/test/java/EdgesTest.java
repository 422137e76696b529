import java.util.ArrayList;
import java.util.List;

/**
 * A test for each sentence of the document that names a boundary case, and whether none was left out: each sentence
 * that tells what is thrown, and each range of an argument, needs one of its own; any other one, too, unless it stands
 * here as one that names no boundary.
 */
public final class EdgesTest {
    private static final String RANGE = ".*-?\\d+ to \\d+";

    /** Sentences of the terms without a case that is too small, too large, empty, full, wrapped or refused. */
    private static final List<String> WITHOUT_BOUNDARY = List.of(
            "Skills, learners, answers, steps and days come by calls",
            "A teacher of one and of many: skills that need others",
            "Each judgement can be gone through again.",
            "Skills.", "Odds.", "Reviews.", "Equations.", "Rules.", "Exercises.", "Hints.", "Exceptions.",
            "Clarifications.",
            "An exercise is an equation a x + b = c x + d, of whole numbers.",
            "A step is another equation.",
            "It is right if it follows.",
            "By a rule, an equation becomes another one.",
            "Ahead of the calls ");

    public static void main(String[] args) {
        SkillsEdges.run();
        DaysEdges.run();
        ExercisesEdges.run();
        FiguresEdges.run();
        CallsEdges.run();
        for (int promise = 1; promise <= Document.PROMISES; promise++) {
            findTestsOfPromise(promise);
        }
        findTestsOfTerms();
        System.out.println("  " + Edge.QUOTES.size() + " sentences with a test");
        Check.finish("EdgesTest");
    }

    private static void findTestsOfPromise(int promise) {
        List<String> sentences = Document.sentencesOfPromise(promise);
        Check.same("promise " + promise + " stands in the document", true, () -> sentences.size() > 0);
        for (String sentence : sentences) {
            if (sentence.startsWith("Throws ") || sentence.matches(RANGE)) {
                String what = "tests of promise " + promise + " \"" + sentence + "\"";
                Check.same(what, 1, () -> testsOf(promise, sentence));
            }
        }
        Check.same("promise " + promise + " has a test", true, () -> hasTest(promise));
    }

    private static int testsOf(int promise, String sentence) {
        int count = 0;
        for (Edge.Quote quote : Edge.QUOTES) {
            if (quote.promise() == promise && quote.words().equals(sentence)) {
                count++;
            }
        }
        return count;
    }

    private static boolean hasTest(int promise) {
        return Edge.QUOTES.stream().anyMatch(quote -> quote.promise() == promise);
    }

    private static void findTestsOfTerms() {
        List<String> left = new ArrayList<>();
        for (String sentence : Document.sentencesOfTerms()) {
            boolean isTested = Edge.QUOTES.stream().anyMatch(quote -> quote.isOf(sentence));
            if (!isTested && WITHOUT_BOUNDARY.stream().noneMatch(sentence::startsWith)) {
                left.add(sentence);
            }
        }
        Check.same("sentences of the terms without a test", List.of(), () -> left);
    }
}
