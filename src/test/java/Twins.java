import java.util.ArrayList;
import java.util.List;

/**
 * Looks that a refused call changes nothing: of two teachers that heard the same calls one hears the refused call too,
 * and then both must answer everything alike.
 */
final class Twins {
    interface Scene {
        Tutorlight make();
    }

    interface Call {
        Object on(Tutorlight x);
    }

    interface OfLearner {
        Object on(Tutorlight x, int learner);
    }

    interface OfBoth {
        Object on(Tutorlight x, int learner, int skill);
    }

    private interface Probe {
        void ask(Tutorlight x, Answers answers);
    }

    /** What calls answered, one after another. */
    private static final class Answers {
        private final List<String> lines = new ArrayList<>();

        void of(String call, Check.Call made) {
            lines.add(call + " answers " + Check.answerOf(made));
        }

        static String difference(Answers of, Answers other) {
            for (int i = 0; i < of.lines.size(); i++) {
                if (!of.lines.get(i).equals(other.lines.get(i))) {
                    return other.lines.get(i) + ", else " + of.lines.get(i);
                }
            }
            return "nothing";
        }
    }

    private static final int SKILLS = 10;
    private static final int LEARNERS = 4;
    private static final Class<? extends Exception> NO_INDEX = IndexOutOfBoundsException.class;
    /** Each is asked of teachers of its own, as together they are more than 512 calls. */
    private static final List<Probe> PROBES =
            List.of(Twins::askAll, Twins::askAsLearner, Twins::askForNeeds, Twins::askAtWork);

    private Twins() {
    }

    static void refuse(String call, Class<? extends Exception> due, Scene scene, Call refused) {
        for (Probe probe : PROBES) {
            Tutorlight asked = scene.make();
            Check.refuses(call, due, () -> refused.on(asked));
            changedNothing(call, scene, asked, probe);
        }
    }

    /** Looks that an object of this scene still answers all as a new one of the scene does. */
    static void changeNothing(String calls, Scene scene, Call made) {
        for (Probe probe : PROBES) {
            Tutorlight asked = scene.make();
            made.on(asked);
            changedNothing(calls, scene, asked, probe);
        }
    }

    private static void changedNothing(String call, Scene scene, Tutorlight asked, Probe probe) {
        Answers due = new Answers();
        Answers got = new Answers();
        probe.ask(scene.make(), due);
        probe.ask(asked, got);
        Check.same(call + " changed", "nothing", () -> Answers.difference(due, got));
    }

    static void noSuchLearner(OfLearner call) {
        refuse("no learners", NO_INDEX, () -> Teachers.with(10, 0), x -> call.on(x, 0));
        refuse("learner 4 of 4", NO_INDEX, Teachers::full, x -> call.on(x, 4));
        for (int wrong : new int[] {-1, 2, Integer.MIN_VALUE, Integer.MAX_VALUE}) {
            refuse("learner " + wrong, NO_INDEX, Teachers::busy, x -> call.on(x, wrong));
        }
    }

    static void noSuchLearnerOrSkill(OfBoth call) {
        noSuchLearner((x, learner) -> call.on(x, learner, 0));
        refuse("nothing", NO_INDEX, Tutorlight::new, x -> call.on(x, 0, 0));
        refuse("no skills", NO_INDEX, () -> Teachers.with(0, 4), x -> call.on(x, 0, 0));
        refuse("skill 10 of 10", NO_INDEX, Teachers::full, x -> call.on(x, 3, 10));
        refuse("neither", NO_INDEX, Teachers::full, x -> call.on(x, 4, 10));
        for (int wrong : new int[] {-1, 5, Integer.MIN_VALUE, Integer.MAX_VALUE}) {
            refuse("skill " + wrong, NO_INDEX, Teachers::busy, x -> call.on(x, 0, wrong));
        }
    }

    private static void askAll(Tutorlight x, Answers answers) {
        for (int i = 0; i < LEARNERS; i++) {
            int learner = i;
            for (int j = 0; j < SKILLS; j++) {
                int skill = j;
                answers.of("isOpen", () -> x.isOpen(learner, skill));
                answers.of("odds", () -> x.odds(learner, skill));
                answers.of("oddsAnew", () -> x.oddsAnew(learner, skill));
                answers.of("answers", () -> x.answers(learner, skill));
                answers.of("due", () -> x.due(learner, skill));
                answers.of("reviewAt", () -> x.reviewAt(learner, skill));
            }
            answers.of("reviews", () -> x.reviews(learner));
            answers.of("choose", () -> x.choose(learner));
            answers.of("explain", () -> x.explain(learner));
            answers.of("faults", () -> x.faults(learner));
            for (char part = 'a'; part <= 'd'; part++) {
                char which = part;
                answers.of("part", () -> x.part(learner, which));
            }
        }
        answers.of("checksum", () -> x.checksum());
        answers.of("knownShare", () -> x.knownShare());
        answers.of("isSound", () -> x.isSound());
    }

    /** Tells the day, how many skills and learners there are, what a teacher opened, and the rows of right ones. */
    private static void askAsLearner(Tutorlight x, Answers answers) {
        answers.of("nextDay", () -> x.nextDay());
        for (int i = 0; i < LEARNERS * SKILLS; i++) {
            int learner = i / SKILLS;
            int skill = i % SKILLS;
            answers.of("setOdds", () -> x.setOdds(learner, skill, 0));
        }
        for (int i = 0; i < LEARNERS * SKILLS; i++) {
            int learner = i / SKILLS;
            int skill = i % SKILLS;
            answers.of("open", () -> x.open(learner, skill));
            answers.of("answer", () -> x.answer(learner, skill, true));
            answers.of("due", () -> x.due(learner, skill));
        }
        answers.of("addSkill", () -> x.addSkill(0, 0, 0));
        answers.of("addLearner", () -> x.addLearner());
    }

    private static void askForNeeds(Tutorlight x, Answers answers) {
        for (int i = 0; i < SKILLS * SKILLS; i++) {
            int skill = i / SKILLS;
            int needed = i % SKILLS;
            answers.of("addNeed", () -> x.addNeed(skill, needed));
        }
    }

    /** Tells the exercises: what was wrong, for which skill they are, and which numbers are not taken again. */
    private static void askAtWork(Tutorlight x, Answers answers) {
        for (int i = 0; i < LEARNERS; i++) {
            int learner = i;
            answers.of("hint", () -> x.hint(learner));
            answers.of("faults", () -> x.faults(learner));
            for (int solution = -4; solution <= 5; solution++) {
                int d = solution;
                answers.of("step", () -> x.step(learner, 1, 0, 0, d));
            }
            answers.of("explain", () -> x.explain(learner));
            for (int j = 0; j < SKILLS; j++) {
                int skill = j;
                answers.of("answers", () -> x.answers(learner, skill));
            }
            answers.of("open", () -> x.open(learner, 0));
            for (int j = 0; j < 5; j++) {
                answers.of("make", () -> x.make(learner, 0, Teachers.NUMBER));
            }
        }
    }
}
