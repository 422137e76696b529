/** Promises 1 to 11: skills and learners. */
public final class SkillsTest {
    private static final Class<? extends Exception> NO_INDEX = IndexOutOfBoundsException.class;
    private static final Class<? extends Exception> BAD = IllegalArgumentException.class;
    private static final Class<? extends Exception> STATE = IllegalStateException.class;

    public static void main(String[] args) {
        newObject();
        addSkill();
        addNeed();
        addLearner();
        open();
        isOpen();
        setOdds();
        answer();
        answerDoesNotRun();
        oddsAnew();
        answers();
        Check.finish("SkillsTest");
    }

    private static void newObject() {
        Tutorlight x = new Tutorlight();
        Check.refuses("1: no skill", NO_INDEX, () -> x.addNeed(0, 0));
        Check.refuses("1: no learner", NO_INDEX, () -> x.reviews(0));
        Check.same("1: no odds", 0L, () -> x.checksum());
        Check.same("1: it is the day 0", 1, () -> x.nextDay());
    }

    private static void addSkill() {
        Tutorlight x = new Tutorlight();
        for (int wrong : new int[] {-1, 501, Integer.MIN_VALUE, Integer.MAX_VALUE}) {
            Check.refuses("2: guess " + wrong, BAD, () -> x.addSkill(wrong, 0, 0));
            Check.refuses("2: slip " + wrong, BAD, () -> x.addSkill(0, wrong, 0));
            Check.refuses("2: gain " + wrong, BAD, () -> x.addSkill(0, 0, wrong));
        }
        Check.same("2: the first", 0, () -> x.addSkill(0, 0, 0));
        Check.same("2: the second", 1, () -> x.addSkill(500, 500, 500));
        for (int i = 2; i < 10; i++) {
            int due = i;
            Check.same("2: another", due, () -> x.addSkill(0, 500, 0));
        }
        Check.refuses("2: the eleventh", STATE, () -> x.addSkill(0, 0, 0));
        Check.refuses("2: wrong and the eleventh", BAD, () -> x.addSkill(0, 0, 501));
        x.addLearner();
        Check.same("2: it needs none", true, () -> x.isOpen(0, 9));
        Check.refuses("2: no eleventh", NO_INDEX, () -> x.isOpen(0, 10));
    }

    private static void addNeed() {
        Tutorlight x = Teachers.with(10, 1);
        for (int wrong : new int[] {-1, 10, Integer.MIN_VALUE, Integer.MAX_VALUE}) {
            Check.refuses("3: skill " + wrong, NO_INDEX, () -> x.addNeed(wrong, 0));
            Check.refuses("3: needed " + wrong, NO_INDEX, () -> x.addNeed(0, wrong));
            Check.refuses("3: both " + wrong, NO_INDEX, () -> x.addNeed(wrong, wrong));
        }
        Check.refuses("3: itself", BAD, () -> x.addNeed(4, 4));
        Check.same("3: nothing was needed", true, () -> x.isOpen(0, 4));
        Check.same("3: new", true, () -> x.addNeed(0, 1));
        Check.same("3: not new", false, () -> x.addNeed(0, 1));
        Check.refuses("3: over one", BAD, () -> x.addNeed(1, 0));
        Check.same("3: the other stays open", true, () -> x.isOpen(0, 1));
        for (int i = 9; i > 1; i--) {
            int skill = i;
            Check.same("3: a chain", true, () -> x.addNeed(skill - 1, skill));
        }
        Check.refuses("3: over nine", BAD, () -> x.addNeed(9, 0));
        Check.same("3: a second way", true, () -> x.addNeed(0, 9));
        Check.same("3: what is needed stays", false, () -> x.addNeed(0, 1));
    }

    private static void addLearner() {
        Tutorlight x = Teachers.with(1, 0);
        Check.refuses("4: none yet", NO_INDEX, () -> x.odds(0, 0));
        for (int i = 0; i < 4; i++) {
            int due = i;
            Check.same("4: another", due, () -> x.addLearner());
            Check.same("4: its odds", 200, () -> x.odds(due, 0));
        }
        Check.refuses("4: the fifth", STATE, () -> x.addLearner());
        Check.refuses("4: no fifth", NO_INDEX, () -> x.odds(4, 0));
    }

    private static void open() {
        Tutorlight x = Teachers.with(3, 2);
        noLearnerOrSkill("5", 2, 3, (learner, skill) -> x.open(learner, skill));
        x.addNeed(1, 0);
        x.addNeed(2, 0);
        Check.same("5: not open", true, () -> x.open(0, 1));
        Check.same("5: open", false, () -> x.open(0, 1));
        Check.same("5: it is open then", true, () -> x.isOpen(0, 1));
        Check.same("5: for the other learner it is not", false, () -> x.isOpen(1, 1));
        Check.same("5: the other skill is not", false, () -> x.isOpen(0, 2));
        x.setOdds(0, 0, 1000);
        Check.same("5: open by the odds", false, () -> x.open(0, 2));
        x.setOdds(0, 0, 0);
        Check.same("5: it stays open whatever the odds", true, () -> x.isOpen(0, 1));
        Check.same("5: so does one that was open", true, () -> x.isOpen(0, 2));
    }

    private static void isOpen() {
        Tutorlight x = Teachers.with(3, 1);
        noLearnerOrSkill("6", 1, 3, (learner, skill) -> x.isOpen(learner, skill));
        Check.same("6: it needs none", true, () -> x.isOpen(0, 0));
        x.addNeed(0, 1);
        x.addNeed(0, 2);
        Check.same("6: two are not known", false, () -> x.isOpen(0, 0));
        x.setOdds(0, 1, 700);
        Check.same("6: one is not known", false, () -> x.isOpen(0, 0));
        x.setOdds(0, 2, 699);
        Check.same("6: just not known", false, () -> x.isOpen(0, 0));
        x.setOdds(0, 2, 700);
        Check.same("6: just known", true, () -> x.isOpen(0, 0));
        x.setOdds(0, 1, 0);
        Check.same("6: not known any more", false, () -> x.isOpen(0, 0));
        Tutorlight y = Teachers.with(3, 1);
        y.addNeed(0, 1);
        y.addNeed(1, 2);
        y.setOdds(0, 1, 1000);
        Check.same("6: not over others", true, () -> y.isOpen(0, 0));
    }

    private static void setOdds() {
        Tutorlight x = Teachers.with(2, 2);
        noLearnerOrSkill("7", 2, 2, (learner, skill) -> x.setOdds(learner, skill, 1001));
        for (int wrong : new int[] {-1, 1001, Integer.MIN_VALUE, Integer.MAX_VALUE}) {
            Check.refuses("7: odds " + wrong, BAD, () -> x.setOdds(0, 0, wrong));
        }
        Check.same("7: the odds before", 200, () -> x.setOdds(0, 0, 1000));
        Check.same("7: the odds before", 1000, () -> x.setOdds(0, 0, 0));
        Check.same("7: the odds then", 0, () -> x.odds(0, 0));
        Check.same("7: another learner", 200, () -> x.odds(1, 0));
        Check.same("7: another skill", 200, () -> x.odds(0, 1));
        x.answer(0, 1, true);
        x.answer(0, 1, true);
        Check.refuses("7: wrong odds", BAD, () -> x.setOdds(0, 1, -1));
        Check.same("7: wrong odds change nothing", 2, () -> x.answers(0, 1));
        x.setOdds(0, 1, 300);
        Check.same("7: the answers are not known", 0, () -> x.answers(0, 1));
        Check.same("7: what is due stays", 2, () -> x.due(0, 1));
        x.answer(0, 1, true);
        Check.same("7: the row stays", 4, () -> x.due(0, 1));
        Check.same("7: one answer since", 1, () -> x.answers(0, 1));
    }

    private static void answer() {
        Tutorlight x = Teachers.with(0, 1);
        x.addSkill(200, 100, 150);
        x.addSkill(0, 500, 500);
        x.addSkill(0, 0, 500);
        noLearnerOrSkill("8", 1, 3, (learner, skill) -> x.answer(learner, skill, true));
        // 200*900*1000/(200*900+800*200) = 529, and 529+471*150/1000 = 599
        Check.same("8: right", 599, () -> x.answer(0, 0, true));
        Check.same("8: the odds then", 599, () -> x.odds(0, 0));
        // 599*100*1000/(599*100+401*800) = 157, and 157+843*150/1000 = 283
        Check.same("8: wrong", 283, () -> x.answer(0, 0, false));
        // 200*500*1000/(200*500+800*1000) = 111, and 111+889*500/1000 = 555
        Check.same("8: wrong without a guess", 555, () -> x.answer(0, 1, false));
        Check.same("8: right without a guess", 1000, () -> x.answer(0, 1, true));
        x.setOdds(0, 2, 0);
        Check.same("8: right with the sum 0, then the gain", 500, () -> x.answer(0, 2, true));
        x.setOdds(0, 2, 1000);
        Check.same("8: wrong with the sum 0", 1000, () -> x.answer(0, 2, false));
        x.addNeed(2, 0);
        Check.refuses("8: not open", STATE, () -> x.answer(0, 2, true));
        Check.same("8: nothing changed", 1000, () -> x.odds(0, 2));
        Check.same("8: no answer more", 1, () -> x.answers(0, 2));
    }

    private static void answerDoesNotRun() {
        Tutorlight x = new Tutorlight();
        x.addSkill(500, 500, 0);
        x.addLearner();
        for (int odds = 0; odds <= 1000; odds++) {
            x.setOdds(0, 0, odds);
            int due = odds;
            Check.same("8: an answer that tells nothing", due, () -> x.answer(0, 0, true));
        }
    }

    private static void oddsAnew() {
        Tutorlight x = Teachers.with(2, 2);
        noLearnerOrSkill("9", 2, 2, (learner, skill) -> x.odds(learner, skill));
        noLearnerOrSkill("10", 2, 2, (learner, skill) -> x.oddsAnew(learner, skill));
        Check.same("9: at first", 200, () -> x.odds(0, 0));
        Check.same("10: at first", 200, () -> x.oddsAnew(0, 0));
        for (int i = 0; i < 150; i++) {
            x.answer(0, 0, i % 3 == 0);
            x.answer(1, 0, i % 5 == 0);
            Check.same("10: from the beginning", x.odds(0, 0), () -> x.oddsAnew(0, 0));
            Check.same("10: another learner", x.odds(1, 0), () -> x.oddsAnew(1, 0));
        }
        x.setOdds(0, 0, 650);
        Check.same("10: told", 650, () -> x.oddsAnew(0, 0));
        x.answer(0, 0, false);
        Check.same("10: since they were told", x.odds(0, 0), () -> x.oddsAnew(0, 0));
    }

    private static void answers() {
        Tutorlight x = Teachers.with(2, 2);
        noLearnerOrSkill("11", 2, 2, (learner, skill) -> x.answers(learner, skill));
        Check.same("11: none", 0, () -> x.answers(0, 0));
        for (int i = 1; i <= 400; i++) {
            int due = i;
            x.answer(1, 1, i % 2 == 0);
            Check.same("11: each counts", due, () -> x.answers(1, 1));
        }
        Check.same("11: another learner", 0, () -> x.answers(0, 1));
        Check.same("11: another skill", 0, () -> x.answers(1, 0));
    }

    private interface OfBoth {
        Object run(int learner, int skill);
    }

    private static void noLearnerOrSkill(String promise, int learners, int skills, OfBoth call) {
        for (int wrong : new int[] {-1, Integer.MIN_VALUE, Integer.MAX_VALUE}) {
            Check.refuses(promise + ": learner " + wrong, NO_INDEX, () -> call.run(wrong, 0));
            Check.refuses(promise + ": skill " + wrong, NO_INDEX, () -> call.run(0, wrong));
        }
        Check.refuses(promise + ": a learner too many", NO_INDEX, () -> call.run(learners, 0));
        Check.refuses(promise + ": a skill too many", NO_INDEX, () -> call.run(0, skills));
    }
}
