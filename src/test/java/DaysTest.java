import java.util.NoSuchElementException;

/** Promises 12 to 16: days and reviews. */
public final class DaysTest {
    private static final Class<? extends Exception> NO_INDEX = IndexOutOfBoundsException.class;
    private static final Class<? extends Exception> NONE = NoSuchElementException.class;

    public static void main(String[] args) {
        nextDay();
        due();
        dueWhereDaysAreFull();
        reviews();
        reviewAt();
        chooseReview();
        chooseNew();
        fullHouse();
        Check.finish("DaysTest");
    }

    private static void nextDay() {
        Tutorlight x = Teachers.with(1, 1);
        for (int i = 1; i <= 200; i++) {
            int due = i;
            Check.same("12: the next day", due, () -> x.nextDay());
        }
        Check.refuses("12: behind the last day", ArithmeticException.class, () -> x.nextDay());
        Check.refuses("12: it stays the last day", ArithmeticException.class, () -> x.nextDay());
        x.answer(0, 0, true);
        Check.same("12: what is due may be later", 201, () -> x.due(0, 0));
    }

    private static void due() {
        Tutorlight x = Teachers.with(2, 2);
        Check.refuses("13: no learner", NO_INDEX, () -> x.due(2, 0));
        Check.refuses("13: no learner", NO_INDEX, () -> x.due(-1, 0));
        Check.refuses("13: no skill", NO_INDEX, () -> x.due(0, 2));
        Check.refuses("13: no skill", NO_INDEX, () -> x.due(0, -1));
        Check.refuses("13: never answered", NONE, () -> x.due(0, 0));
        x.setOdds(0, 0, 900);
        Check.refuses("13: told, but never answered", NONE, () -> x.due(0, 0));
        int[] waits = {1, 2, 4, 8, 16, 16, 16};
        for (int wait : waits) {
            x.answer(0, 0, true);
            Check.same("13: the row of right ones", wait, () -> x.due(0, 0));
        }
        x.answer(0, 0, false);
        Check.same("13: a wrong one", 1, () -> x.due(0, 0));
        x.answer(0, 0, true);
        Check.same("13: the row begins anew", 1, () -> x.due(0, 0));
        Teachers.goOn(x, 3);
        x.answer(0, 0, true);
        Check.same("13: counted from this day", 5, () -> x.due(0, 0));
        Check.refuses("13: another learner", NONE, () -> x.due(1, 0));
        x.setOdds(0, 0, 0);
        Check.same("13: told, but answered once", 5, () -> x.due(0, 0));
        Teachers.goOn(x, 9);
        Check.same("13: a review that is not done stays due", 5, () -> x.due(0, 0));
    }

    private static void dueWhereDaysAreFull() {
        Tutorlight x = Teachers.with(10, 2);
        for (int i = 0; i < 10; i++) {
            int skill = i;
            x.answer(0, skill, i % 2 == 0);
            Check.same("13: two on each day", 1 + i / 2, () -> x.due(0, skill));
        }
        x.answer(0, 9, false);
        Check.same("13: itself is not another", 5, () -> x.due(0, 9));
        x.answer(0, 0, false);
        Check.same("13: itself does not fill its day", 1, () -> x.due(0, 0));
        x.answer(0, 2, true);
        Check.same("13: a second right one, day 2 has one other", 2, () -> x.due(0, 2));
        x.answer(1, 0, true);
        Check.same("13: other learners do not count", 1, () -> x.due(1, 0));
        Teachers.goOn(x, 3);
        x.answer(0, 3, true);
        Check.same("13: overdue ones do not fill the days", 6, () -> x.due(0, 3));
        x.answer(0, 3, false);
        Check.same("13: a wrong one skips full days too", 6, () -> x.due(0, 3));
    }

    private static void reviews() {
        Tutorlight x = Teachers.with(5, 2);
        Check.refuses("14: no learner", NO_INDEX, () -> x.reviews(2));
        Check.refuses("14: no learner", NO_INDEX, () -> x.reviews(-1));
        Check.same("14: none", 0, () -> x.reviews(0));
        x.answer(0, 0, true);
        x.answer(0, 1, true);
        x.answer(0, 2, true);
        Check.same("14: not yet", 0, () -> x.reviews(0));
        x.nextDay();
        Check.same("14: on this day", 2, () -> x.reviews(0));
        x.nextDay();
        Check.same("14: before it too", 3, () -> x.reviews(0));
        x.answer(0, 0, true);
        Check.same("14: one is done", 2, () -> x.reviews(0));
        Check.same("14: another learner", 0, () -> x.reviews(1));
        x.addNeed(1, 3);
        Check.same("14: one that is not open counts", 2, () -> x.reviews(0));
    }

    private static void reviewAt() {
        Tutorlight x = Teachers.with(6, 2);
        Check.refuses("15: no learner", NO_INDEX, () -> x.reviewAt(2, 0));
        Check.refuses("15: no learner", NO_INDEX, () -> x.reviewAt(-1, -1));
        Check.refuses("15: none", NONE, () -> x.reviewAt(0, 0));
        x.answer(0, 5, true);
        x.answer(0, 3, true);
        x.answer(0, 4, true);
        x.answer(0, 1, true);
        x.answer(0, 0, true);
        Check.refuses("15: not yet", NONE, () -> x.reviewAt(0, 0));
        Teachers.goOn(x, 2);
        int[] order = {3, 5, 1, 4};
        for (int i = 0; i < order.length; i++) {
            int index = i;
            Check.same("15: index " + i, order[i], () -> x.reviewAt(0, index));
        }
        for (int wrong : new int[] {4, -1, Integer.MIN_VALUE, Integer.MAX_VALUE}) {
            Check.refuses("15: index " + wrong, NONE, () -> x.reviewAt(0, wrong));
        }
        x.addNeed(3, 2);
        Check.same("15: one that is not open too", 3, () -> x.reviewAt(0, 0));
        x.nextDay();
        Check.same("15: the last", 0, () -> x.reviewAt(0, 4));
        Check.refuses("15: another learner", NONE, () -> x.reviewAt(1, 0));
    }

    private static void chooseReview() {
        Tutorlight x = Teachers.with(4, 1);
        Check.refuses("16: no learner", NO_INDEX, () -> x.choose(1));
        Check.refuses("16: no learner", NO_INDEX, () -> x.choose(-1));
        x.answer(0, 3, true);
        x.answer(0, 2, true);
        x.answer(0, 1, true);
        Check.same("16: not yet due", 0, () -> x.choose(0));
        Teachers.goOn(x, 2);
        Check.same("16: the lowest number of that day", 2, () -> x.choose(0));
        x.addNeed(2, 0);
        Check.same("16: whose skill is open", 3, () -> x.choose(0));
        x.addNeed(3, 0);
        Check.same("16: the later day", 1, () -> x.choose(0));
        x.addNeed(1, 0);
        Check.same("16: a new one if no review is open", 0, () -> x.choose(0));
        x.answer(0, 0, false);
        Check.refuses("16: nothing", NONE, () -> x.choose(0));
        x.open(0, 1);
        Check.same("16: opened by a teacher", 1, () -> x.choose(0));
    }

    private static void chooseNew() {
        Tutorlight x = new Tutorlight();
        x.addLearner();
        Check.refuses("16: no skills", NONE, () -> x.choose(0));
        x.addSkill(0, 0, 0);
        Check.same("16: a product of 0", 0, () -> x.choose(0));
        x.addSkill(0, 0, 100);
        x.addSkill(0, 0, 200);
        x.addSkill(0, 0, 200);
        Check.same("16: the greatest product, the lowest number", 2, () -> x.choose(0));
        x.setOdds(0, 2, 201);
        Check.same("16: the odds count", 3, () -> x.choose(0));
        x.setOdds(0, 3, 600);
        x.setOdds(0, 2, 600);
        Check.same("16: 800 times 100 is 400 times 200", 1, () -> x.choose(0));
        x.answer(0, 1, true);
        Check.same("16: the answered one is not new", 2, () -> x.choose(0));
        x.setOdds(0, 1, 0);
        Check.same("16: told, but answered once", 2, () -> x.choose(0));
        x.addNeed(2, 0);
        Check.same("16: only open ones", 3, () -> x.choose(0));
    }

    private static void fullHouse() {
        Tutorlight x = Teachers.with(10, 4);
        Check.same("16: the first of ten", 0, () -> x.choose(3));
        for (int i = 9; i >= 0; i--) {
            x.answer(3, i, i % 2 == 0);
        }
        Check.refuses("16: all ten are answered, none is due", NONE, () -> x.choose(3));
        Teachers.goOn(x, 10);
        Check.same("14: all ten", 10, () -> x.reviews(3));
        int[] order = {8, 9, 6, 7, 4, 5, 2, 3, 0, 1};
        for (int i = 0; i < order.length; i++) {
            int index = i;
            Check.same("15: index " + i + " of ten", order[i], () -> x.reviewAt(3, index));
        }
        Check.refuses("15: index 10", NONE, () -> x.reviewAt(3, 10));
        Check.same("16: the first review of ten", 8, () -> x.choose(3));
        for (int i = 0; i < 3; i++) {
            int other = i;
            Check.same("14: the other learners", 0, () -> x.reviews(other));
        }
    }
}
