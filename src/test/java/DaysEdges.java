import java.util.NoSuchElementException;

/** The boundary cases of the promises 12 to 16: days and reviews. */
final class DaysEdges {
    private static final Class<? extends Exception> NO_INDEX = IndexOutOfBoundsException.class;
    private static final Class<? extends Exception> NONE = NoSuchElementException.class;
    private static final Class<? extends Exception> NO_DAY = ArithmeticException.class;

    private DaysEdges() {
    }

    static void run() {
        Edge.of(12, "There are days, from 0 on", DaysEdges::firstDay);
        Edge.of(12, "Throws ArithmeticException if the day would be greater than 200", DaysEdges::dayBehind200);

        Edge.of(13, "is due again in 1 day, behind the second right answer in a row in 2 days",
                DaysEdges::firstTwoOfARow);
        Edge.of(13, "and then twice as many each time, but at most 16", DaysEdges::atMost16Days);
        Edge.of(13, "one that is answered wrong is due on the next day, and the row begins anew", DaysEdges::rowAnew);
        Edge.of(13, "If 2 other skills of this learner are due on that day", DaysEdges::twoOthersOnThatDay);
        Edge.of(13, "it is due on the first later day on which fewer than 2 others are", DaysEdges::firstLaterDay);
        Edge.of(13, "Skills due on that very day are counted", DaysEdges::thatVeryDay);
        Edge.of(13, "A review that is not done stays due", DaysEdges::notDoneStaysDue);
        Edge.of(13, "Returns the day", DaysEdges::dueBehindTheLastDay);
        Edge.of(13, Edge.NO_LEARNER_OR_SKILL, () -> Twins.noSuchLearnerOrSkill(Tutorlight::due));
        Edge.of(13, "Throws NoSuchElementException if it was never answered", DaysEdges::neverAnswered);
        Edge.of(13, Edge.FIRST_OF_SEVERAL, DaysEdges::neverAnsweredWithoutLearner);

        Edge.of(14, "due on this day or were before", DaysEdges::reviewsOfThisDay);
        Edge.of(14, "Returns the number of reviews", DaysEdges::noReviewsAndAll);
        Edge.of(14, Edge.NO_LEARNER, () -> Twins.noSuchLearner(Tutorlight::reviews));

        Edge.of(15, "those due first ahead, then by rising numbers", DaysEdges::orderOfReviews);
        Edge.of(15, "index: the index, from 0", DaysEdges::firstAndLastIndex);
        Edge.of(15, Edge.NO_LEARNER, () -> Twins.noSuchLearner((x, learner) -> x.reviewAt(learner, 0)));
        Edge.of(15, "Throws NoSuchElementException if there is no such index", DaysEdges::noSuchReview);
        Edge.of(15, Edge.FIRST_OF_SEVERAL, () -> Twins.noSuchLearner((x, learner) -> x.reviewAt(learner, -1)));

        Edge.of(16, "the first of the reviews that are due, as reviewAt() tells them, whose skill is open",
                DaysEdges::firstOpenReview);
        Edge.of(16, "otherwise, of the open skills that were never answered", DaysEdges::openAndNeverAnswered);
        Edge.of(16, "the one with the greatest product of 1000 less the odds and the gain",
                DaysEdges::greatestProduct);
        Edge.of(16, "of several the lowest number", DaysEdges::lowestNumberOfSeveral);
        Edge.of(16, Edge.NO_LEARNER, () -> Twins.noSuchLearner(Tutorlight::choose));
        Edge.of(16, "Throws NoSuchElementException if there is none", DaysEdges::nothingToChoose);
        Edge.of(16, Edge.FIRST_OF_SEVERAL, DaysEdges::nothingToChooseWithoutLearner);
    }

    private static void firstDay() {
        Tutorlight x = Teachers.with(1, 1);
        x.answer(0, 0, true);
        Check.same("due in 1 day from the first day", 1, () -> x.due(0, 0));
        Check.same("the day behind the first one", 1, () -> x.nextDay());
        Check.same("the day behind that", 2, () -> x.nextDay());
    }

    private static Tutorlight onDay200() {
        Tutorlight x = Teachers.with(2, 1);
        x.answer(0, 0, true);
        Teachers.goOn(x, 200);
        return x;
    }

    private static void dayBehind200() {
        Tutorlight x = Teachers.with(2, 1);
        Teachers.goOn(x, 198);
        Check.same("the day 199", 199, () -> x.nextDay());
        Check.same("the day 200", 200, () -> x.nextDay());
        Check.refuses("the day 201", NO_DAY, () -> x.nextDay());
        Twins.refuse("the day 201", NO_DAY, DaysEdges::onDay200, y -> y.nextDay());
        Tutorlight z = onDay200();
        Check.refuses("the day 201", NO_DAY, () -> z.nextDay());
        z.answer(0, 1, true);
        Check.same("it is the day 200 still", 201, () -> z.due(0, 1));
        Tutorlight empty = new Tutorlight();
        Teachers.goOn(empty, 200);
        Check.refuses("the day 201 of nobody", NO_DAY, () -> empty.nextDay());
    }

    private static int dueBehind(Tutorlight x, int skill, boolean isRight) {
        x.answer(0, skill, isRight);
        return x.due(0, skill);
    }

    private static void firstTwoOfARow() {
        Tutorlight x = Teachers.with(2, 2);
        Teachers.goOn(x, 5);
        Check.same("the first right one", 6, () -> dueBehind(x, 0, true));
        Check.same("the second right one", 7, () -> dueBehind(x, 0, true));
        Check.same("the first of another skill", 6, () -> dueBehind(x, 1, true));
        x.answer(1, 0, true);
        Check.same("the first of another learner", 6, () -> x.due(1, 0));
    }

    private static void atMost16Days() {
        Tutorlight x = Teachers.with(1, 1);
        int[] waits = {1, 2, 4, 8, 16, 16, 16};
        for (int wait : waits) {
            Check.same("the next of a row", wait, () -> dueBehind(x, 0, true));
        }
        for (int i = 0; i < 400; i++) {
            x.answer(0, 0, true);
        }
        Check.same("behind more than 400 in a row", 16, () -> x.due(0, 0));
        Teachers.goOn(x, 3);
        Check.same("from the day 3", 19, () -> dueBehind(x, 0, true));
    }

    private static void rowAnew() {
        Tutorlight x = Teachers.with(1, 1);
        Teachers.goOn(x, 3);
        Check.same("wrong as the first answer", 4, () -> dueBehind(x, 0, false));
        Check.same("wrong again", 4, () -> dueBehind(x, 0, false));
        for (int wait : new int[] {1, 2, 4, 8, 16}) {
            Check.same("a row", 3 + wait, () -> dueBehind(x, 0, true));
        }
        Check.same("wrong behind the row", 4, () -> dueBehind(x, 0, false));
        Check.same("right behind the wrong one", 4, () -> dueBehind(x, 0, true));
        Check.same("right again", 5, () -> dueBehind(x, 0, true));
    }

    private static void twoOthersOnThatDay() {
        Tutorlight x = Teachers.with(4, 2);
        Check.same("no other", 1, () -> dueBehind(x, 0, true));
        Check.same("one other", 1, () -> dueBehind(x, 1, true));
        Check.same("itself and one other", 1, () -> dueBehind(x, 1, false));
        Check.same("itself with no more than one other", 1, () -> dueBehind(x, 0, false));
        x.answer(1, 3, true);
        Check.same("two others, of this learner", 2, () -> dueBehind(x, 2, true));
        Check.same("no other of the other learner", 1, () -> x.due(1, 3));
        Check.same("two others, and a wrong answer", 2, () -> dueBehind(x, 3, false));
    }

    private static void firstLaterDay() {
        Tutorlight x = Teachers.with(10, 1);
        for (int i = 0; i < 10; i++) {
            int skill = i;
            Check.same("skill " + i, 1 + i / 2, () -> dueBehind(x, skill, false));
        }
        Check.same("the day 5 has one other", 5, () -> dueBehind(x, 9, true));
        Check.same("the days 2 to 4 are full, the day 5 has one other", 5, () -> dueBehind(x, 9, true));
        Check.same("the days 4 and 5", 5, () -> dueBehind(x, 9, true));
        Check.same("in 8 days", 8, () -> dueBehind(x, 9, true));
        Check.same("the day 1 has one other", 1, () -> dueBehind(x, 0, true));
        Check.same("the days 2 to 4 are full, the day 5 has one other", 5, () -> dueBehind(x, 0, true));
        Check.same("the day 1 is free again", 1, () -> dueBehind(x, 7, false));
        Check.same("the day 4 is free again", 4, () -> dueBehind(x, 0, true));
    }

    private static void thatVeryDay() {
        Tutorlight x = Teachers.with(6, 1);
        for (int i = 0; i < 4; i++) {
            x.answer(0, i, true);
        }
        Teachers.goOn(x, 2);
        Check.same("four reviews are not done", 4, () -> x.reviews(0));
        Check.same("none is due on the very day 3", 3, () -> dueBehind(x, 4, true));
        Check.same("one is", 3, () -> dueBehind(x, 5, true));
        Check.same("two are", 4, () -> dueBehind(x, 0, false));
        Check.same("one is on the day 4, for the second of a row", 4, () -> dueBehind(x, 1, true));
    }

    private static void notDoneStaysDue() {
        Tutorlight x = Teachers.with(1, 1);
        x.answer(0, 0, true);
        Teachers.goOn(x, 200);
        Check.same("since the day 1", 1, () -> x.due(0, 0));
        Check.same("it is a review", 1, () -> x.reviews(0));
        Check.same("it is chosen", 0, () -> x.choose(0));
        Check.same("done, it is due later", 202, () -> dueBehind(x, 0, true));
        Check.same("it is no review any more", 0, () -> x.reviews(0));
    }

    private static void dueBehindTheLastDay() {
        Tutorlight x = Teachers.with(10, 1);
        Teachers.goOn(x, 200);
        for (int i = 0; i < 10; i++) {
            int skill = i;
            Check.same("skill " + i, 201 + i / 2, () -> dueBehind(x, skill, true));
        }
        for (int i = 0; i < 4; i++) {
            x.answer(0, 0, true);
        }
        Check.same("16 days behind the last day", 216, () -> x.due(0, 0));
        Check.same("no reviews", 0, () -> x.reviews(0));
        Check.same("sound", true, () -> x.isSound());
    }

    private static void neverAnswered() {
        Twins.refuse("the first skill of the full", NONE, Teachers::full, x -> x.due(3, 0));
        Twins.refuse("odds were told", NONE, Teachers::busy, x -> x.due(1, 0));
        Twins.refuse("answered by the other learner", NONE, Teachers::busy, x -> x.due(1, 2));
        Twins.refuse("not open", NONE, Teachers::busy, x -> x.due(0, 3));
        Check.same("answered, then odds were told", 2, () -> Teachers.busy().due(0, 0));
        Tutorlight solved = Teachers.with(1, 1);
        solved.make(0, 0, 0);
        Check.refuses("an exercise that is not solved", NONE, () -> solved.due(0, 0));
        solved.step(0, 1, 0, 0, -4);
        Check.same("an exercise that is solved", 1, () -> solved.due(0, 0));
    }

    private static void neverAnsweredWithoutLearner() {
        Twins.refuse("no such learner", NO_INDEX, Teachers::busy, x -> x.due(2, 3));
        Twins.refuse("no such skill", NO_INDEX, Teachers::busy, x -> x.due(0, 5));
    }

    private static void reviewsOfThisDay() {
        Tutorlight x = Teachers.with(3, 1);
        x.answer(0, 0, true);
        x.answer(0, 1, true);
        x.answer(0, 1, true);
        Check.same("the day before", 0, () -> x.reviews(0));
        x.nextDay();
        Check.same("this day", 1, () -> x.reviews(0));
        x.nextDay();
        Check.same("this day and before", 2, () -> x.reviews(0));
        x.answer(0, 0, false);
        Check.same("one is done", 1, () -> x.reviews(0));
    }

    private static void noReviewsAndAll() {
        Check.same("no skills", 0, () -> Teachers.with(0, 1).reviews(0));
        Check.same("no answers", 0, () -> Teachers.with(10, 4).reviews(3));
        Tutorlight x = Teachers.with(10, 4);
        for (int i = 0; i < 10; i++) {
            x.answer(3, i, true);
        }
        for (int i = 1; i <= 5; i++) {
            x.nextDay();
            int due = 2 * i;
            Check.same("on the day " + i, due, () -> x.reviews(3));
        }
        Check.same("of another learner", 0, () -> x.reviews(2));
    }

    /** On the day 2: skill 4 is due since the day 1, the skills 1 and 3 since the day 2, skill 0 on the day 3. */
    private static Tutorlight withReviews() {
        Tutorlight x = Teachers.with(5, 1);
        x.answer(0, 4, true);
        x.answer(0, 1, true);
        x.answer(0, 1, true);
        x.answer(0, 3, true);
        x.answer(0, 3, true);
        x.answer(0, 0, true);
        x.answer(0, 0, true);
        Teachers.goOn(x, 2);
        return x;
    }

    private static void orderOfReviews() {
        Tutorlight x = withReviews();
        Check.same("the day before", 4, () -> x.reviewAt(0, 0));
        Check.same("this day, the lower number", 1, () -> x.reviewAt(0, 1));
        Check.same("this day, the higher number", 3, () -> x.reviewAt(0, 2));
        x.nextDay();
        Check.same("the next day, the lowest number", 0, () -> x.reviewAt(0, 3));
        x.setOdds(0, 4, 0);
        Check.same("odds were told", 4, () -> x.reviewAt(0, 0));
    }

    private static void firstAndLastIndex() {
        Tutorlight x = Teachers.with(10, 1);
        for (int i = 9; i >= 0; i--) {
            x.answer(0, i, true);
        }
        Teachers.goOn(x, 5);
        Check.same("0", 8, () -> x.reviewAt(0, 0));
        Check.same("9, of ten", 1, () -> x.reviewAt(0, 9));
        Check.refuses("10, of ten", NONE, () -> x.reviewAt(0, 10));
        Tutorlight one = Teachers.with(1, 1);
        one.answer(0, 0, true);
        one.nextDay();
        Check.same("0, of one", 0, () -> one.reviewAt(0, 0));
        Check.refuses("1, of one", NONE, () -> one.reviewAt(0, 1));
    }

    private static void noSuchReview() {
        for (int wrong : new int[] {-1, 3, Integer.MIN_VALUE, Integer.MAX_VALUE}) {
            Twins.refuse("index " + wrong, NONE, DaysEdges::withReviews, x -> x.reviewAt(0, wrong));
        }
        Twins.refuse("none is due", NONE, Teachers::full, x -> x.reviewAt(3, 0));
        Twins.refuse("no skills", NONE, () -> Teachers.with(0, 1), x -> x.reviewAt(0, 0));
    }

    private static void firstOpenReview() {
        Tutorlight x = withReviews();
        Check.same("the first", 4, () -> x.choose(0));
        x.addNeed(4, 2);
        Check.same("the second, if the first is not open", 1, () -> x.choose(0));
        x.setOdds(0, 2, 700);
        Check.same("the first, if it is just open", 4, () -> x.choose(0));
        x.setOdds(0, 2, 699);
        x.addNeed(1, 2);
        Check.same("the last", 3, () -> x.choose(0));
        x.addNeed(3, 2);
        Check.same("a new one, if no review is open", 2, () -> x.choose(0));
        x.open(0, 3);
        Check.same("one that a teacher opened", 3, () -> x.choose(0));
        Tutorlight y = Teachers.with(2, 1);
        y.answer(0, 1, true);
        Check.same("due tomorrow, it is no review", 0, () -> y.choose(0));
        y.nextDay();
        Check.same("due today, it is one", 1, () -> y.choose(0));
    }

    private static void openAndNeverAnswered() {
        Tutorlight x = Teachers.with(4, 2);
        x.answer(0, 0, true);
        Check.same("the first was answered", 1, () -> x.choose(0));
        x.setOdds(0, 0, 0);
        Check.same("the first was answered, then odds were told", 1, () -> x.choose(0));
        x.addNeed(1, 0);
        Check.same("the second is not open", 2, () -> x.choose(0));
        x.setOdds(0, 0, 700);
        Check.same("the second is just open", 1, () -> x.choose(0));
        x.addNeed(2, 1);
        x.answer(0, 1, true);
        x.open(0, 2);
        x.setOdds(0, 3, 201);
        Check.same("the third is opened by a teacher", 2, () -> x.choose(0));
        Check.same("another learner answered none", 0, () -> x.choose(1));
    }

    private static void greatestProduct() {
        Tutorlight x = Teachers.with(0, 1);
        x.addSkill(0, 0, 0);
        Check.same("a product of 0, by the gain", 0, () -> x.choose(0));
        x.addSkill(0, 0, 1);
        Check.same("800 is more than 0", 1, () -> x.choose(0));
        x.setOdds(0, 1, 1000);
        Check.same("both products are 0", 0, () -> x.choose(0));
        x.setOdds(0, 1, 999);
        Check.same("1 is more than 0", 1, () -> x.choose(0));
        x.addSkill(0, 0, 500);
        x.setOdds(0, 2, 999);
        Check.same("500 is more than 1", 2, () -> x.choose(0));
        x.addSkill(500, 500, 500);
        x.setOdds(0, 3, 0);
        x.setOdds(0, 2, 1);
        Check.same("500000 is more than 499500", 3, () -> x.choose(0));
        Tutorlight known = Teachers.with(1, 1);
        known.setOdds(0, 0, 1000);
        Check.same("the only one, with a product of 0", 0, () -> known.choose(0));
    }

    private static void lowestNumberOfSeveral() {
        Tutorlight x = Teachers.with(0, 1);
        x.addSkill(0, 0, 499);
        for (int i = 1; i < 10; i++) {
            x.addSkill(0, 0, 500);
        }
        Check.same("the lowest of nine", 1, () -> x.choose(0));
        x.setOdds(0, 1, 202);
        x.setOdds(0, 2, 600);
        Check.same("the lowest of the others", 3, () -> x.choose(0));
        Tutorlight y = Teachers.with(0, 1);
        y.addSkill(0, 0, 100);
        y.addSkill(0, 0, 200);
        y.setOdds(0, 1, 600);
        Check.same("800 times 100 is 400 times 200", 0, () -> y.choose(0));
    }

    private static Tutorlight allAnswered() {
        Tutorlight x = Teachers.with(10, 4);
        for (int i = 0; i < 10; i++) {
            x.answer(3, i, true);
        }
        return x;
    }

    /** The only skill that was never answered is not open, and the only review is not open either. */
    private static Tutorlight nothingOpen() {
        Tutorlight x = Teachers.with(3, 1);
        x.answer(0, 1, true);
        x.nextDay();
        x.answer(0, 0, true);
        x.setOdds(0, 0, 699);
        x.addNeed(1, 0);
        x.addNeed(2, 0);
        return x;
    }

    private static void nothingToChoose() {
        Twins.refuse("no skills", NONE, () -> Teachers.with(0, 1), x -> x.choose(0));
        Twins.refuse("all ten were answered, none is due", NONE, DaysEdges::allAnswered, x -> x.choose(3));
        Twins.refuse("none is open", NONE, DaysEdges::nothingOpen, x -> x.choose(0));
        Tutorlight x = nothingOpen();
        x.setOdds(0, 0, 700);
        Check.same("just open", 1, () -> x.choose(0));
    }

    private static void nothingToChooseWithoutLearner() {
        Twins.refuse("no skills either", NO_INDEX, Tutorlight::new, x -> x.choose(0));
        Twins.refuse("nothing to do", NO_INDEX, DaysEdges::allAnswered, x -> x.choose(4));
    }
}
