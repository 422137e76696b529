import java.util.NoSuchElementException;

/** The boundary cases of the promises 17 to 22: exercises. */
final class ExercisesEdges {
    private static final Class<? extends Exception> NO_INDEX = IndexOutOfBoundsException.class;
    private static final Class<? extends Exception> BAD = IllegalArgumentException.class;
    private static final Class<? extends Exception> STATE = IllegalStateException.class;
    private static final Class<? extends Exception> NONE = NoSuchElementException.class;
    private static final int[] TOO_FAR = {-10000, 10000, Integer.MIN_VALUE, Integer.MAX_VALUE};
    private static final String NO_EXERCISE = "Throws IllegalStateException if the learner has no exercise";

    private ExercisesEdges() {
    }

    static void run() {
        makeEdges();
        partEdges();
        stepEdges();
        explainEdges();
        hintEdges();
        faultsEdges();
    }

    private static void makeEdges() {
        Edge.of(17, "has a = 2 plus the number modulo 7, c = the number divided by 7, modulo 2",
                ExercisesEdges::firstAndLastEquation);
        Edge.of(17, "number: the number, 0 to 1259", ExercisesEdges::numberRange);
        Edge.of(17, "in place of one that is not solved", ExercisesEdges::madeInPlaceOfAnother);
        Edge.of(17, "A learner does not get the same equation again among the 3 exercises behind one",
                ExercisesEdges::notAmongThreeBehind);
        Edge.of(17, "then the next number is taken, and so on", ExercisesEdges::nextNumberAndSoOn);
        Edge.of(17, "Returns the number that was taken at last, modulo 1260", ExercisesEdges::nextBehindTheLastNumber);
        Edge.of(17, "those that were made for this learner, of any skill, solved or not",
                ExercisesEdges::threeOfAnySkill);
        Edge.of(17, Edge.NO_LEARNER_OR_SKILL,
                () -> Twins.noSuchLearnerOrSkill((x, learner, skill) -> x.make(learner, skill, 0)));
        Edge.of(17, "Throws IllegalArgumentException if it is out of range", ExercisesEdges::numberOutOfRange);
        Edge.of(17, "Throws IllegalStateException if the skill is not open for the learner",
                ExercisesEdges::makeNotOpen);
        Edge.of(17, Edge.FIRST_OF_SEVERAL, ExercisesEdges::makeRefusedForSeveral);
    }

    private static void partEdges() {
        Edge.of(18, "which: 'a', 'b', 'c' or 'd'", ExercisesEdges::fourParts);
        Edge.of(18, Edge.NO_LEARNER, () -> Twins.noSuchLearner((x, learner) -> x.part(learner, 'a')));
        Edge.of(18, "Throws IllegalArgumentException if there is no such part", ExercisesEdges::noSuchPart);
        Edge.of(18, NO_EXERCISE, () -> withoutExercise((x, learner) -> x.part(learner, 'd')));
        Edge.of(18, Edge.FIRST_OF_SEVERAL, ExercisesEdges::partRefusedForSeveral);
    }

    private static void stepEdges() {
        Edge.of(19, "It is solved as x = d, with a 1, b and c 0", ExercisesEdges::justSolved);
        Edge.of(19, "the same one number", ExercisesEdges::sameOneNumber);
        Edge.of(19, "or none both", ExercisesEdges::noneBoth);
        Edge.of(19, "or all both", ExercisesEdges::allBoth);
        for (char part = 'a'; part <= 'd'; part++) {
            int place = part - 'a';
            Edge.of(19, part + ": the number " + part + ", -9999 to 9999", () -> rangeOf(place));
        }
        Edge.of(19, "this is a right answer if no step was wrong and no hint was given, otherwise a wrong one",
                ExercisesEdges::rightWithoutFaults);
        Edge.of(19, "A solved exercise is an answer also if its skill is not open any more",
                ExercisesEdges::solvedNotOpenAnyMore);
        Edge.of(19, Edge.NO_LEARNER, () -> Twins.noSuchLearner((x, learner) -> x.step(learner, 0, 0, 0, 0)));
        Edge.of(19, "Throws IllegalArgumentException if a number is out of range", ExercisesEdges::anyOfFourOutOfRange);
        Edge.of(19, NO_EXERCISE, () -> withoutExercise((x, learner) -> x.step(learner, 1, 0, 0, -4)));
        Edge.of(19, Edge.FIRST_OF_SEVERAL, ExercisesEdges::stepRefusedForSeveral);
    }

    private static void explainEdges() {
        Edge.of(20, "the 4th, if b and c are 0, a is not 0, and d can be divided by a without rest",
                ExercisesEdges::conditionsToDivide);
        Edge.of(20, "the 4th, under the same conditions, only a becomes 1", ExercisesEdges::conditionsToDivideBroken);
        Edge.of(20, "A broken rule does not count as broken where it does the same as the right one",
                ExercisesEdges::brokenDoesTheSame);
        Edge.of(20, "if some row of at most 3 rules, right or broken, leads to it", ExercisesEdges::atMostThreeRules);
        Edge.of(20, "that has the fewest", ExercisesEdges::fewestBroken);
        Edge.of(20, "of several the least sum of 1, 2, 8 and 16", ExercisesEdges::leastSumOfSeveral);
        Edge.of(20, "The fewest broken rules are the fewest different ones", ExercisesEdges::brokenTwiceCountsOnce);
        Edge.of(20, "An explanation is asked of the last wrong step in any exercise of the learner",
                ExercisesEdges::lastWrongStepOfAny);
        Edge.of(20, Edge.NO_LEARNER, () -> Twins.noSuchLearner(Tutorlight::explain));
        Edge.of(20, "Throws IllegalStateException if no step of this learner was wrong",
                ExercisesEdges::noStepWasWrong);
        Edge.of(20, "Throws NoSuchElementException if it has none", ExercisesEdges::noExplanation);
        Edge.of(20, Edge.FIRST_OF_SEVERAL, ExercisesEdges::explainRefusedForSeveral);
    }

    private static void hintEdges() {
        Edge.of(21, "the 1st if it does, as 1; otherwise the 0th, as 0; otherwise the 4th, as 4",
                ExercisesEdges::firstRuleThatChanges);
        Edge.of(21, "and the 3rd, as 3, if none of these does", ExercisesEdges::noneOfTheseChanges);
        Edge.of(21, Edge.NO_LEARNER, () -> Twins.noSuchLearner(Tutorlight::hint));
        Edge.of(21, NO_EXERCISE, () -> withoutExercise(Tutorlight::hint));
        Edge.of(21, Edge.FIRST_OF_SEVERAL, () -> Twins.refuse("neither", NO_INDEX, Tutorlight::new, x -> x.hint(0)));
    }

    private static void faultsEdges() {
        Edge.of(22, "Returns 10 times the steps plus the hints", ExercisesEdges::noFaultsAndMany);
        Edge.of(22, Edge.NO_LEARNER, () -> Twins.noSuchLearner(Tutorlight::faults));
        Edge.of(22, NO_EXERCISE, () -> withoutExercise(Tutorlight::faults));
        Edge.of(22, Edge.FIRST_OF_SEVERAL, () -> Twins.refuse("neither", NO_INDEX, Tutorlight::new, x -> x.faults(0)));
    }

    /** No exercise was made, one was solved, or the other learner has one. */
    private static void withoutExercise(Twins.OfLearner call) {
        Twins.refuse("none was made", STATE, () -> Teachers.with(1, 1), x -> call.on(x, 0));
        Twins.refuse("no skills", STATE, () -> Teachers.with(0, 1), x -> call.on(x, 0));
        Twins.refuse("the other learner has one", STATE, Teachers::busy, x -> call.on(x, 1));
        Twins.refuse("it is solved", STATE, ExercisesEdges::solved, x -> call.on(x, 0));
    }

    private static Tutorlight solved() {
        Tutorlight x = Teachers.busy();
        x.step(0, 1, 0, 0, -4);
        return x;
    }

    private static char step(Tutorlight x, int... told) {
        return x.step(0, told[0], told[1], told[2], told[3]);
    }

    private static void firstAndLastEquation() {
        int[] numbers = {0, 6, 7, 13, 14, 139, 140, 699, 700, 1259};
        String[] equations = {"2 -4 0 -12", "8 -4 0 -36", "2 -4 1 -8", "8 -4 1 -32", "2 -4 0 -10",
            "8 -4 1 31", "2 -3 0 -11", "8 0 1 35", "2 1 0 -7", "8 4 1 39"};
        for (int i = 0; i < numbers.length; i++) {
            Tutorlight x = Teachers.withExercise(numbers[i]);
            Check.same("number " + numbers[i], equations[i], () -> Teachers.equation(x));
        }
    }

    private static void numberRange() {
        for (int number : new int[] {0, 1, 1258, 1259}) {
            Check.same("number " + number, number, () -> Teachers.with(10, 4).make(3, 9, number));
        }
        Twins.refuse("-1", BAD, Teachers::busy, x -> x.make(0, 0, -1));
        Twins.refuse("1260", BAD, Teachers::busy, x -> x.make(0, 0, 1260));
    }

    private static void madeInPlaceOfAnother() {
        Tutorlight x = Teachers.withExercise(Teachers.NUMBER);
        x.hint(0);
        step(x, 3, -3, 0, -7);
        x.make(0, 1, 0);
        Check.same("the equation", "2 -4 0 -12", () -> Teachers.equation(x));
        Check.same("its faults", 0, () -> x.faults(0));
        Check.same("its solution", 's', () -> step(x, 1, 0, 0, -4));
        Check.same("an answer of its skill", 1, () -> x.answers(0, 1));
        Check.same("no answer of the skill of the other", 0, () -> x.answers(0, 0));
        Check.refuses("the other is gone", STATE, () -> x.part(0, 'a'));
    }

    private static void notAmongThreeBehind() {
        for (int others = 0; others <= 4; others++) {
            Tutorlight x = Teachers.withExercise(500);
            for (int i = 0; i < others; i++) {
                x.make(0, 0, 10 * i);
            }
            int due = others < 3 ? 501 : 500;
            Check.same("behind " + others + " others", due, () -> x.make(0, 0, 500));
        }
        Check.same("for another learner", 500, () -> Teachers.withExercise(500).make(1, 0, 500));
    }

    private static void nextNumberAndSoOn() {
        Tutorlight x = Teachers.withExercise(502);
        x.make(0, 0, 500);
        x.make(0, 0, 501);
        Check.same("three are not taken", 503, () -> x.make(0, 0, 500));
        Check.same("its equation", "8 -1 1 6", () -> Teachers.equation(x));
        Check.same("the one that was told is not among them", 504, () -> x.make(0, 0, 503));
        Tutorlight y = Teachers.withExercise(500);
        for (int i = 1; i <= 3; i++) {
            int due = 500 + i;
            Check.same("told again", due, () -> y.make(0, 0, 500));
        }
        Check.same("told for the fifth time", 500, () -> y.make(0, 0, 500));
        Check.same("told for the sixth time", 501, () -> y.make(0, 0, 500));
    }

    private static void nextBehindTheLastNumber() {
        Tutorlight x = Teachers.withExercise(1259);
        Check.same("behind the last", 0, () -> x.make(0, 0, 1259));
        Check.same("its equation", "2 -4 0 -12", () -> Teachers.equation(x));
        Check.same("behind the last and the first", 1, () -> x.make(0, 0, 1259));
        Check.same("behind the first two", 2, () -> x.make(0, 0, 0));
        Check.same("the last again", 1259, () -> x.make(0, 0, 1259));
        Tutorlight y = Teachers.withExercise(1258);
        y.make(0, 0, 1259);
        Check.same("behind the last two", 0, () -> y.make(0, 0, 1258));
    }

    private static void threeOfAnySkill() {
        Tutorlight x = Teachers.withExercise(500);
        Check.same("of another skill", 501, () -> x.make(0, 1, 500));
        // 501 is 6 x - 1 = x + 4
        Check.same("the solution", 's', () -> step(x, 1, 0, 0, 1));
        Check.same("solved", 502, () -> x.make(0, 0, 501));
        Check.same("of another learner", 500, () -> x.make(1, 0, 500));
        Check.same("not of the other learner", 503, () -> x.make(0, 0, 500));
    }

    private static void numberOutOfRange() {
        for (int wrong : new int[] {-1, 1260, Integer.MIN_VALUE, Integer.MAX_VALUE}) {
            Twins.refuse("number " + wrong, BAD, Teachers::busy, x -> x.make(0, 0, wrong));
            Twins.refuse("of the last, number " + wrong, BAD, Teachers::full, x -> x.make(3, 9, wrong));
        }
    }

    private static void makeNotOpen() {
        Twins.refuse("with an exercise", STATE, Teachers::busy, x -> x.make(0, 3, Teachers.NUMBER));
        Twins.refuse("without one", STATE, Teachers::busy, x -> x.make(1, 4, 0));
        Tutorlight x = Teachers.with(2, 1);
        x.addNeed(1, 0);
        x.setOdds(0, 0, 699);
        Check.refuses("at 699", STATE, () -> x.make(0, 1, 0));
        x.setOdds(0, 0, 700);
        Check.same("at 700", 0, () -> x.make(0, 1, 0));
    }

    private static void makeRefusedForSeveral() {
        Twins.refuse("no such learner, and the number", NO_INDEX, Teachers::busy, x -> x.make(2, 3, -1));
        Twins.refuse("no such skill, and the number", NO_INDEX, Teachers::busy, x -> x.make(0, 5, 1260));
        Twins.refuse("the number, and not open", BAD, Teachers::busy, x -> x.make(0, 3, -1));
        Twins.refuse("the number, and not open for another", BAD, Teachers::busy, x -> x.make(1, 4, 1260));
    }

    private static void fourParts() {
        Tutorlight x = Teachers.withExercise(Teachers.NUMBER);
        Check.same("a", 2, () -> x.part(0, 'a'));
        Check.same("b", -3, () -> x.part(0, 'b'));
        Check.same("c", 1, () -> x.part(0, 'c'));
        Check.same("d", -7, () -> x.part(0, 'd'));
        Twins.refuse("the sign before a", BAD, Teachers::busy, y -> y.part(0, (char) ('a' - 1)));
        Twins.refuse("the sign behind d", BAD, Teachers::busy, y -> y.part(0, (char) ('d' + 1)));
    }

    private static void noSuchPart() {
        for (char wrong : new char[] {'A', 'B', 'C', 'D', 'e', '`', 'x', 0, 0xFFFF, 'a' + 256}) {
            Twins.refuse("part " + (int) wrong, BAD, Teachers::busy, x -> x.part(0, wrong));
        }
    }

    private static void partRefusedForSeveral() {
        Twins.refuse("no such learner and part", NO_INDEX, Teachers::busy, x -> x.part(2, 'e'));
        Twins.refuse("no such part, no exercise", BAD, Teachers::busy, x -> x.part(1, 'e'));
        Twins.refuse("no such part, it is solved", BAD, ExercisesEdges::solved, x -> x.part(0, 'A'));
    }

    private static void justSolved() {
        int[][] notSolved = {{-1, 0, 0, 4}, {2, 0, 0, -8}, {1, 1, 0, -3}, {1, -1, 0, -5}, {1, 0, -1, -8}, {1, 0, 2, 4},
            {0, -4, 1, 0}, {0, 0, -1, -4}};
        Tutorlight x = Teachers.withExercise(0);
        for (int[] each : notSolved) {
            Check.same("x is not alone", 'f', () -> step(x, each));
        }
        Check.same("x is alone", 's', () -> step(x, 1, 0, 0, -4));
        Check.refuses("solved", STATE, () -> step(x, 1, 0, 0, -4));
        Check.same("another solution", 'w', () -> step(Teachers.withExercise(0), 1, 0, 0, 4));
        Check.same("the solution 0", 's', () -> step(Teachers.withExercise(56), 1, 0, 0, 0));
        Check.same("the solution 5", 's', () -> step(Teachers.withExercise(126), 1, 0, 0, 5));
    }

    private static void sameOneNumber() {
        Tutorlight x = Teachers.withExercise(0);
        Check.same("the same equation", 'f', () -> step(x, 2, -4, 0, -12));
        Check.same("large numbers", 'f', () -> step(x, 9999, 9999, 7499, -1));
        Check.same("not quite the same number", 'w', () -> step(x, 9999, 9999, 7499, -2));
        Check.same("the old one stays", "9999 9999 7499 -1", () -> Teachers.equation(x));
        Check.same("none, not one", 'w', () -> step(x, 0, 1, 0, 2));
        Check.same("all, not one", 'w', () -> step(x, 0, 0, 0, 0));
        Check.same("the largest sums", 'w', () -> step(x, 9999, -9999, -9999, 9999));
        Check.same("the other sign", 'w', () -> step(x, 9999, 9999, -9999, -9999));
        Tutorlight zero = Teachers.withExercise(56);
        Check.same("the solution 0", 'f', () -> step(zero, 7, 1, 3, 1));
        Check.same("all, not 0 alone", 'w', () -> step(zero, 3, 1, 3, 1));
        Check.same("none, not 0", 'w', () -> step(zero, 3, 1, 3, 2));
    }

    /** No run of calls leads to an equation without solutions, or with all. */
    private static void noneBoth() throws Exception {
        Tutorlight x = Teachers.withExercise(0);
        Inside.setEquation(x, 0, 2, 1, 2, 5);
        Check.same("one", 'w', () -> step(x, 1, 0, 0, -4));
        Check.same("one, of rest 0", 'w', () -> step(x, 1, 0, 0, 0));
        Check.same("all", 'w', () -> step(x, 0, 0, 0, 0));
        Check.same("none", 'f', () -> step(x, 0, 0, 0, -9));
        Check.same("none, with c", 'f', () -> step(x, -7, 9999, -7, -9999));
    }

    private static void allBoth() throws Exception {
        Tutorlight x = Teachers.withExercise(0);
        Inside.setEquation(x, 0, 2, 5, 2, 5);
        Check.same("one", 'w', () -> step(x, 1, 0, 0, -4));
        Check.same("0 alone", 'w', () -> step(x, 1, 0, 0, 0));
        Check.same("none", 'w', () -> step(x, 0, 1, 0, 0));
        Check.same("all", 'f', () -> step(x, 0, 0, 0, 0));
        Check.same("all, with c", 'f', () -> step(x, -7, 9999, -7, 9999));
    }

    /** A step of which one number is told. */
    private static char stepWith(Tutorlight x, int place, int number) {
        int[] told = {0, 0, 0, 1};
        told[place] = number;
        return step(x, told);
    }

    private static void rangeOf(int place) {
        for (int number : new int[] {-9999, -9998, 9998, 9999}) {
            Check.same(number + " is a wrong step", 'w', () -> stepWith(Teachers.busy(), place, number));
        }
        for (int wrong : new int[] {-10000, 10000}) {
            Twins.refuse(wrong + "", BAD, Teachers::busy, x -> stepWith(x, place, wrong));
        }
        // Each has the solution -4, and one number at either end.
        int[][] least = {{-9999, -9999, -7499, 1}, {0, -9999, 1, -9995}, {-9998, 0, -9999, -4}, {1, -9995, 0, -9999}};
        int[][] greatest = {{9999, 9999, 7499, -1}, {0, 9999, -1, 9995}, {9998, 9995, 9999, 9999}, {-1, 9995, 0, 9999}};
        Check.same("the least follows", 'f', () -> step(Teachers.withExercise(0), least[place]));
        Check.same("the greatest follows", 'f', () -> step(Teachers.withExercise(0), greatest[place]));
    }

    /** The answers, and whether the last of them was right, behind the exercise of the solution -4. */
    private static String solvedBehind(boolean isHinted, int... told) {
        Tutorlight x = Teachers.withExercise(0);
        if (isHinted) {
            x.hint(0);
        }
        if (told.length > 0) {
            step(x, told);
        }
        step(x, 1, 0, 0, -4);
        Tutorlight y = Teachers.with(1, 1);
        boolean isRight = x.odds(0, 0) == y.answer(0, 0, true);
        boolean isWrong = x.odds(0, 0) == Teachers.with(1, 1).answer(0, 0, false);
        return x.answers(0, 0) + (isRight ? " right" : "") + (isWrong ? " wrong" : "");
    }

    private static void rightWithoutFaults() {
        Check.same("no step", "1 right", () -> solvedBehind(false));
        Check.same("a right step", "1 right", () -> solvedBehind(false, 2, 0, 0, -8));
        Check.same("one wrong step", "1 wrong", () -> solvedBehind(false, 2, 0, 0, -9));
        Check.same("one hint", "1 wrong", () -> solvedBehind(true));
        Check.same("both", "1 wrong", () -> solvedBehind(true, 2, 0, 0, -9));
        Tutorlight x = Teachers.withExercise(0);
        Check.refuses("a refused step", BAD, () -> step(x, 2, 0, 0, 10000));
        step(x, 1, 0, 0, -4);
        Check.same("a refused step is not wrong", Teachers.with(1, 1).answer(0, 0, true), () -> x.odds(0, 0));
        x.make(0, 0, 500);
        x.hint(0);
        x.make(0, 0, 0);
        step(x, 1, 0, 0, -4);
        Check.same("a hint in the one that it is in place of", 2, () -> x.due(0, 0));
    }

    private static void solvedNotOpenAnyMore() {
        Tutorlight x = Teachers.withExercise(0);
        x.addNeed(0, 1);
        Check.same("it can be solved", 's', () -> step(x, 1, 0, 0, -4));
        Check.same("it is an answer", 1, () -> x.answers(0, 0));
        Check.same("it is due", 1, () -> x.due(0, 0));
        Check.refuses("an answer beside it is not", STATE, () -> x.answer(0, 0, true));
        Tutorlight y = Teachers.with(2, 1);
        y.addNeed(1, 0);
        y.setOdds(0, 0, 700);
        y.make(0, 1, 0);
        y.setOdds(0, 0, 699);
        Check.same("not open by the odds", 's', () -> step(y, 1, 0, 0, -4));
        Check.same("it is an answer too", 1, () -> y.answers(0, 1));
    }

    private static void anyOfFourOutOfRange() {
        for (int wrong : TOO_FAR) {
            for (int i = 0; i < 4; i++) {
                int place = i;
                Twins.refuse(wrong + " in place " + i, BAD, Teachers::full, x -> stepOfLast(x, place, wrong));
            }
            Twins.refuse("all four " + wrong, BAD, Teachers::busy, x -> step(x, wrong, wrong, wrong, wrong));
        }
    }

    private static char stepOfLast(Tutorlight x, int place, int number) {
        int[] told = {1, 0, 0, -4};
        told[place] = number;
        return x.step(3, told[0], told[1], told[2], told[3]);
    }

    private static void stepRefusedForSeveral() {
        for (int wrong : TOO_FAR) {
            Twins.refuse("no learner, d " + wrong, NO_INDEX, Teachers::busy, x -> x.step(2, 0, 0, 0, wrong));
            Twins.refuse("no exercise, a " + wrong, BAD, Teachers::busy, x -> x.step(1, wrong, 0, 0, 0));
            Twins.refuse("no exercise, d " + wrong, BAD, Teachers::busy, x -> x.step(1, 0, 0, 0, wrong));
        }
        Twins.refuse("neither learner nor exercise", NO_INDEX, Tutorlight::new, x -> x.step(0, 0, 0, 0, 0));
    }

    private static void explains(String what, Object due, int number, int... told) {
        explainsFrom(what, due, Teachers.withExercise(number), told);
    }

    private static void explainsFrom(String what, Object due, Tutorlight x, int... told) {
        Check.same(what + ": the step", 'w', () -> step(x, told));
        Check.same(what, due, () -> x.explain(0));
    }

    private static Tutorlight with(int number, int... equation) {
        Tutorlight x = Teachers.withExercise(number);
        step(x, equation);
        return x;
    }

    private static void conditionsToDivide() {
        // 0 is 2 x - 4 = -12: b added is 2 x = -16, and divided x = -8
        explains("divided", 1, 0, 1, 0, 0, -8);
        explains("b is not 0", NONE, 0, 1, -4, 0, -6);
        // 5 is 7 x - 4 = -32: b added is 7 x = -36
        explains("a rest", NONE, 5, 1, 0, 0, -5);
        // 7 is 2 x - 4 = x - 8: b taken is 2 x = x - 4
        explains("c is not 0", NONE, 7, 1, 0, 1, -2);
        // The broken 1st makes a 0 in x + 3 = -x - 5.
        explainsFrom("a is 0", 2, with(0, 1, 3, -1, -5), 0, 0, 0, -8);
        explainsFrom("all are 0", 8, with(0, 1, 4, -1, -4), 0, 0, 0, 0);
        // b added to -2 x + 4 = 4 is -2 x = 8
        explainsFrom("a is below 0", 1, with(56, -2, 4, 0, 4), 1, 0, 0, -4);
        // b added to -x - 4 = 0 is -x = -4
        explainsFrom("a is -1", 1, with(0, -1, -4, 0, 0), 1, 0, 0, 4);
        // b added to 2 x + 9999 = 9991 is 2 x = 19990
        explainsFrom("d is greater than what can be told", 1, with(0, 2, 9999, 0, 9991), 1, 0, 0, 9995);
    }

    private static void conditionsToDivideBroken() {
        // 0 is 2 x - 4 = -12, 5 is 7 x - 4 = -32, 7 is 2 x - 4 = x - 8
        explains("b is not 0", NONE, 0, 1, -4, 0, -12);
        explains("b taken, d not divided", 16, 5, 1, 0, 0, -28);
        explains("b added, a rest", NONE, 5, 1, 0, 0, -36);
        explains("c is not 0", NONE, 7, 1, 0, 1, -4);
        explainsFrom("a is 0", NONE, with(0, 1, 3, -1, -5), 1, 3, 0, -5);
        explainsFrom("a is below 0", 16, with(0, -2, 0, 0, 8), 1, 0, 0, 8);
    }

    private static void brokenDoesTheSame() {
        // 560 is 2 x + 0 = -8: taking b, and taking c, do nothing
        explains("b and c are 0: the 4th alone", 16, 560, 1, 0, 0, -8);
        explains("b is 0: two signs, divided", 8, 560, 1, 0, 0, 4);
        // 616 is 2 x + 0 = 0, with the solution 0: nothing that is broken leads to 2 x = 1
        explains("all broken ones do as the right ones", NONE, 616, 2, 0, 0, 1);
        // 0 is 2 x - 4 = -12: c is 0
        explains("c is 0: b alone", 1, 0, 2, 0, 0, -16);
    }

    private static void atMostThreeRules() {
        explains("one rule", 1, 0, 2, 0, 0, -16);
        explains("two rules", 3, 147, 3, 0, 0, -10);
        explains("three rules, two broken", 3, 147, -3, 0, 0, 10);
        explains("three rules, three broken", 25, 0, -1, 0, 0, -16);
        explains("four rules", NONE, 147, 0, 10, -3, 0);
        explains("b added, c taken, sides changed", 1, 147, 0, -10, 1, 0);
        explains("b added, c taken, sides changed, all signs", NONE, 147, 0, 10, -1, 0);
    }

    private static void fewestBroken() {
        explains("16, though 3", 16, 190, 1, 0, 0, -2);
        explains("16, though 9", 16, 210, -1, 0, 0, -2);
        explains("8, though 3", 8, 94, -6, 0, 0, 0);
    }

    private static void leastSumOfSeveral() {
        explains("1, though 2 and 8", 1, 72, -4, 0, 0, 4);
        explains("1, though 8", 1, 560, -2, 0, 0, -8);
        explains("1, though 16", 1, 0, 0, -8, 1, 0);
        explains("2, though 8", 2, 0, 2, 0, 0, 8);
        explains("8, though 16", 8, 0, 1, 0, 0, 8);
        explains("17, though 24", 17, 0, 1, 0, 0, -16);
        explains("9, though 24", 9, 0, -1, 0, 0, -8);
        explainsFrom("3, though 17", 3, with(0, 2, -3, -1, -15), 1, 0, 0, -18);
        explainsFrom("2, though 8 and 16", 2, with(0, 3, 0, -4, -28), -1, 0, 0, 28);
    }

    private static void brokenTwiceCountsOnce() {
        // No wrong step was found that needs the same broken rule twice: another row has it once.
        explains("the 0th, the sides, the 0th again", 1, 147, 1, 0, 2, -10);
    }

    private static void lastWrongStepOfAny() {
        Tutorlight x = Teachers.withExercise(Teachers.NUMBER);
        step(x, 2, 0, 1, -10);
        Check.same("the only one", 1, () -> x.explain(0));
        step(x, 3, -3, 0, -7);
        Check.same("the last of two", 2, () -> x.explain(0));
        step(x, 1, -3, 0, -7);
        Check.same("a right one behind it", 2, () -> x.explain(0));
        step(x, 1, 0, 0, -4);
        Check.same("solved", 2, () -> x.explain(0));
        x.make(0, 1, 0);
        Check.same("in another exercise, no step was wrong", 2, () -> x.explain(0));
        step(x, 2, 0, 0, -16);
        Check.same("in another exercise, one was", 1, () -> x.explain(0));
        step(x, 1, 0, 0, 777);
        Check.refuses("the last has no explanation", NONE, () -> x.explain(0));
    }

    private static Tutorlight withRightStep() {
        return with(0, 2, 0, 0, -8);
    }

    private static void noStepWasWrong() {
        Twins.refuse("no exercise", STATE, Teachers::busy, x -> x.explain(1));
        Twins.refuse("no step", STATE, () -> Teachers.withExercise(0), x -> x.explain(0));
        Twins.refuse("a right step", STATE, ExercisesEdges::withRightStep, x -> x.explain(0));
        Twins.refuse("one of another learner", STATE, Teachers::full, x -> x.explain(0));
        Check.same("wrong, then solved", 2, () -> solved().explain(0));
    }

    private static Tutorlight unexplained() {
        Tutorlight x = Teachers.busy();
        step(x, 1, 0, 0, 777);
        return x;
    }

    private static void noExplanation() {
        Twins.refuse("far away", NONE, ExercisesEdges::unexplained, x -> x.explain(0));
        explains("no solution", NONE, 0, 0, 0, 0, 1);
        explains("all solutions", NONE, 0, 5, 5, 5, 5);
        explains("the least numbers", NONE, 0, -9999, -9999, -9999, -9999);
        explains("the greatest numbers", NONE, 0, 9999, 9999, 9999, 9999);
    }

    private static void explainRefusedForSeveral() {
        Twins.refuse("neither learner nor step", NO_INDEX, Tutorlight::new, x -> x.explain(0));
        Twins.refuse("neither step nor explanation", STATE, () -> Teachers.with(1, 1), x -> x.explain(0));
        Twins.refuse("neither learner nor explanation", NO_INDEX, ExercisesEdges::unexplained, x -> x.explain(2));
    }

    private static void firstRuleThatChanges() {
        Tutorlight x = Teachers.withExercise(Teachers.NUMBER);
        Check.same("all of them would", 1, () -> x.hint(0));
        step(x, 2, 0, 1, -4);
        Check.same("the 0th would not", 1, () -> x.hint(0));
        step(x, 1, -3, 0, -7);
        Check.same("the 1st would not", 0, () -> x.hint(0));
        step(x, -1, -4, 0, 0);
        Check.same("the 1st would not, d is 0", 0, () -> x.hint(0));
        step(x, 9999, 9999, 9999 - 4, 9999 - 16);
        Check.same("c is great", 1, () -> x.hint(0));
        step(x, 3, 0, 0, -12);
        Check.same("the 1st and the 0th would not", 4, () -> x.hint(0));
        step(x, -1, 0, 0, 4);
        Check.same("a is -1", 4, () -> x.hint(0));
        Check.same("told again", 4, () -> x.hint(0));
    }

    /** No run of calls leads to such an equation. */
    private static void noneOfTheseChanges() throws Exception {
        int[][] equations = {{2, 0, 0, -7}, {1, 0, 0, 5}, {0, 0, 0, 3}, {0, 0, 0, 0}};
        for (int[] each : equations) {
            Tutorlight x = Teachers.withExercise(0);
            Inside.setEquation(x, 0, each);
            Check.same("a " + each[0] + ", d " + each[3], 3, () -> x.hint(0));
        }
    }

    private static void noFaultsAndMany() {
        Tutorlight x = Teachers.with(1, 1);
        x.make(0, 0, 0);
        Check.same("none", 0, () -> x.faults(0));
        x.hint(0);
        Check.same("one hint", 1, () -> x.faults(0));
        step(x, 0, 0, 0, 0);
        Check.same("one of both", 11, () -> x.faults(0));
        for (int i = 1; i < 250; i++) {
            x.hint(0);
            step(x, 0, 0, 0, 0);
        }
        Check.same("250 of both", 2750, () -> x.faults(0));
        step(x, 2, 0, 0, -8);
        Check.same("a right step", 2750, () -> x.faults(0));
    }
}
