import java.util.NoSuchElementException;

/** Promises 17 to 22: exercises. */
public final class ExercisesTest {
    private static final Class<? extends Exception> NO_INDEX = IndexOutOfBoundsException.class;
    private static final Class<? extends Exception> BAD = IllegalArgumentException.class;
    private static final Class<? extends Exception> STATE = IllegalStateException.class;
    private static final Class<? extends Exception> NONE = NoSuchElementException.class;

    public static void main(String[] args) {
        makeRefuses();
        makeEquations();
        makeOthers();
        part();
        stepRefuses();
        stepFollows();
        stepSolves();
        solvedIsAnAnswer();
        explainRefuses();
        explainOneRule();
        explainSeveralRules();
        explainLastWrongStep();
        hint();
        faults();
        Check.finish("ExercisesTest");
    }

    private static void makeRefuses() {
        Tutorlight x = Teachers.withExercise(0);
        x.addNeed(1, 0);
        x.hint(0);
        for (int wrong : new int[] {-1, 2, Integer.MIN_VALUE, Integer.MAX_VALUE}) {
            Check.refuses("17: learner " + wrong, NO_INDEX, () -> x.make(wrong, 0, -1));
            Check.refuses("17: skill " + wrong, NO_INDEX, () -> x.make(0, wrong, -1));
        }
        for (int wrong : new int[] {-1, 1260, Integer.MIN_VALUE, Integer.MAX_VALUE}) {
            Check.refuses("17: number " + wrong, BAD, () -> x.make(0, 0, wrong));
            Check.refuses("17: not open, number " + wrong, BAD, () -> x.make(0, 1, wrong));
        }
        Check.refuses("17: not open", STATE, () -> x.make(0, 1, 5));
        Check.same("17: the exercise stays", 1, () -> x.faults(0));
        Check.same("17: the number was not made", 5, () -> x.make(0, 0, 5));
    }

    private static void makeEquations() {
        for (int number = 0; number < 1260; number++) {
            int n = number;
            int a = 2 + n % 7;
            int c = n / 7 % 2;
            int solution = n / 14 % 10 - 4;
            int b = n / 140 % 9 - 4;
            int d = a * solution + b - c * solution;
            Tutorlight x = Teachers.withExercise(n);
            Check.same("17: number " + n, a + " " + b + " " + c + " " + d, () -> Teachers.equation(x));
        }
        Tutorlight last = Teachers.withExercise(1259);
        Check.same("17: the last number", "8 4 1 39", () -> Teachers.equation(last));
    }

    private static void makeOthers() {
        Tutorlight x = Teachers.withExercise(0);
        Check.same("17: the next number", 1, () -> x.make(0, 0, 0));
        Check.same("17: another number", 2, () -> x.make(0, 1, 2));
        Check.same("17: three were made, of any skill", 3, () -> x.make(0, 0, 0));
        Check.same("17: four behind it, it comes again", 0, () -> x.make(0, 0, 0));
        Check.same("17: another learner", 0, () -> x.make(1, 0, 0));
        x.make(0, 0, 1259);
        Check.same("17: behind the last number", 1, () -> x.make(0, 0, 1259));
        Check.same("17: the equation of the number 1", "3 -4 0 -16", () -> Teachers.equation(x));
        x.step(0, 1, 0, 0, -4);
        Check.same("17: solved ones too", 2, () -> x.make(0, 0, 1));
    }

    private static void part() {
        Tutorlight x = Teachers.withExercise(1000);
        Check.same("18: a", 8, () -> x.part(0, 'a'));
        Check.same("18: b", 3, () -> x.part(0, 'b'));
        Check.same("18: c", 0, () -> x.part(0, 'c'));
        Check.same("18: d", -21, () -> x.part(0, 'd'));
        for (char wrong : new char[] {'`', 'e', 'A', 'D', 'x', 0, 0xFFFF}) {
            Check.refuses("18: part " + (int) wrong, BAD, () -> x.part(0, wrong));
            Check.refuses("18: no exercise, part " + (int) wrong, BAD, () -> x.part(1, wrong));
        }
        Check.refuses("18: no learner", NO_INDEX, () -> x.part(2, 'e'));
        Check.refuses("18: no learner", NO_INDEX, () -> x.part(-1, 'a'));
        Check.refuses("18: no exercise", STATE, () -> x.part(1, 'a'));
        x.step(0, 8, 0, 0, -24);
        Check.same("18: behind a step", "8 0 0 -24", () -> Teachers.equation(x));
        x.step(0, 1, 0, 0, -3);
        Check.refuses("18: solved", STATE, () -> x.part(0, 'a'));
    }

    private static void stepRefuses() {
        Tutorlight x = Teachers.withExercise(0);
        for (int wrong : new int[] {-10000, 10000, Integer.MIN_VALUE, Integer.MAX_VALUE}) {
            Check.refuses("19: a " + wrong, BAD, () -> x.step(0, wrong, 0, 0, 0));
            Check.refuses("19: b " + wrong, BAD, () -> x.step(0, 0, wrong, 0, 0));
            Check.refuses("19: c " + wrong, BAD, () -> x.step(0, 0, 0, wrong, 0));
            Check.refuses("19: d " + wrong, BAD, () -> x.step(1, 0, 0, 0, wrong));
            Check.refuses("19: no learner", NO_INDEX, () -> x.step(2, 0, 0, 0, wrong));
        }
        Check.refuses("19: no learner", NO_INDEX, () -> x.step(-1, 0, 0, 0, 0));
        Check.refuses("19: no exercise", STATE, () -> x.step(1, 0, 0, 0, 0));
        Check.same("19: none of these was a step", 0, () -> x.faults(0));
        Check.refuses("19: none of these was wrong", STATE, () -> x.explain(0));
    }

    private static void stepFollows() {
        Tutorlight x = Teachers.withExercise(0);
        Check.same("19: the same", 'f', () -> x.step(0, 2, -4, 0, -12));
        Check.same("19: any with the solution -4", 'f', () -> x.step(0, 9999, 9999, 7499, -1));
        Check.same("19: the learner has it then", "9999 9999 7499 -1", () -> Teachers.equation(x));
        Check.same("19: the solution -4 and a bit", 'w', () -> x.step(0, 9999, 9999, 7499, -2));
        Check.same("19: the learner has the old one", "9999 9999 7499 -1", () -> Teachers.equation(x));
        Check.same("19: the least a and b", 'f', () -> x.step(0, -9999, -9999, -7499, 1));
        Check.same("19: the least c", 'f', () -> x.step(0, -9998, 0, -9999, -4));
        Check.same("19: the least d", 'f', () -> x.step(0, 1, -9995, 0, -9999));
        Check.same("19: the greatest c and d", 'f', () -> x.step(0, 9998, 9995, 9999, 9999));
        Check.same("19: no solution", 'w', () -> x.step(0, 5, 1, 5, 2));
        Check.same("19: all solutions", 'w', () -> x.step(0, 5, 2, 5, 2));
        Check.same("19: all zero", 'w', () -> x.step(0, 0, 0, 0, 0));
        Check.same("19: the other sign", 'w', () -> x.step(0, 1, 0, 0, 4));
        Check.same("19: changed sides, not solved", 'f', () -> x.step(0, 0, -4, 1, 0));
        Check.same("19: a is -1, not solved", 'f', () -> x.step(0, -1, 0, 0, 4));
        Check.same("19: b is not 0, not solved", 'f', () -> x.step(0, 1, 1, 0, -3));
        Check.same("19: c is not 0, not solved", 'f', () -> x.step(0, 1, 0, 2, 4));
        Check.same("19: five wrong ones", 50, () -> x.faults(0));
        Tutorlight zero = Teachers.withExercise(4 * 14);
        Check.same("19: the solution 0", 'f', () -> zero.step(0, 7, 0, 3, 0));
        Check.same("19: all, not 0 alone", 'w', () -> zero.step(0, 3, 0, 3, 0));
    }

    private static void stepSolves() {
        Tutorlight x = Teachers.withExercise(0);
        Check.same("19: solved", 's', () -> x.step(0, 1, 0, 0, -4));
        Check.refuses("19: no exercise any more", STATE, () -> x.step(0, 1, 0, 0, -4));
        Tutorlight y = Teachers.withExercise(0);
        y.make(0, 1, 50);
        y.step(0, 1, 0, 0, -1);
        Check.same("19: the one in its place is solved", 1, () -> y.answers(0, 1));
        Check.same("19: the first one is no answer", 0, () -> y.answers(0, 0));
        Check.same("19: nor one of another learner", 0, () -> y.answers(1, 1));
    }

    private static void solvedIsAnAnswer() {
        Tutorlight right = Teachers.withExercise(0);
        right.step(0, 2, 0, 0, -8);
        right.step(0, 1, 0, 0, -4);
        Check.same("19: a right answer", right.answer(1, 0, true), () -> right.odds(0, 0));
        Check.same("19: it is due", 1, () -> right.due(0, 0));
        Tutorlight wrong = Teachers.withExercise(0);
        wrong.step(0, 2, 0, 0, -9);
        wrong.step(0, 1, 0, 0, -4);
        Check.same("19: wrong behind a wrong step", wrong.answer(1, 0, false), () -> wrong.odds(0, 0));
        Tutorlight hinted = Teachers.withExercise(0);
        hinted.hint(0);
        hinted.step(0, 1, 0, 0, -4);
        Check.same("19: wrong behind a hint", hinted.answer(1, 0, false), () -> hinted.odds(0, 0));
        Tutorlight anew = Teachers.withExercise(0);
        anew.step(0, 2, 0, 0, -9);
        anew.hint(0);
        anew.make(0, 0, 50);
        anew.step(0, 1, 0, 0, -1);
        Check.same("19: right in a new exercise", anew.answer(1, 0, true), () -> anew.odds(0, 0));
        Tutorlight closed = Teachers.withExercise(0);
        closed.addNeed(0, 1);
        Check.same("19: not open any more", 's', () -> closed.step(0, 1, 0, 0, -4));
        Check.same("19: an answer all the same", 1, () -> closed.answers(0, 0));
    }

    private static void explainRefuses() {
        Tutorlight x = Teachers.withExercise(0);
        Check.refuses("20: no learner", NO_INDEX, () -> x.explain(2));
        Check.refuses("20: no learner", NO_INDEX, () -> x.explain(-1));
        Check.refuses("20: nothing was wrong", STATE, () -> x.explain(0));
        x.step(0, 2, 0, 0, -8);
        Check.refuses("20: a right step", STATE, () -> x.explain(0));
        x.step(0, 1, 0, 0, 777);
        Check.refuses("20: no explanation", NONE, () -> x.explain(0));
        Check.refuses("20: another learner", STATE, () -> x.explain(1));
    }

    private static void explains(String what, Object due, int number, int... told) {
        Tutorlight x = Teachers.withExercise(number);
        x.step(0, told[0], told[1], told[2], told[3]);
        Check.same("20: " + what, due, () -> x.explain(0));
    }

    private static void explainOneRule() {
        // 147 is 2 x - 3 = x - 7
        explains("b added on the right", 1, 147, 2, 0, 1, -10);
        explains("c added on the left", 2, 147, 3, -3, 0, -7);
        explains("two signs", 8, 147, -2, 3, 1, -7);
        explains("not all signs, then right ones", 8, 147, -3, 0, 0, -10);
        explains("c and d signs: by the sides", 8, 147, 2, -3, -1, 7);
        explains("b added, sides changed, signs", 1, 147, -1, 10, -2, 0);
        // 14 * 9 + 6 is 8 x - 4 = 36
        Tutorlight x = Teachers.withExercise(132);
        x.step(0, 8, 0, 0, 40);
        x.step(0, 1, 0, 0, 40);
        Check.same("20: d is not divided", 16, () -> x.explain(0));
        x.step(0, 0, 40, 1, 0);
        Check.same("20: and the sides changed", 16, () -> x.explain(0));
        x.step(0, -8, 0, 0, 40);
        Check.same("20: two signs without b: the least sum", 1, () -> x.explain(0));
        x.step(0, 1, 0, 0, -5);
        Check.same("20: two signs, divided", 8, () -> x.explain(0));
    }

    private static void explainSeveralRules() {
        // 147 is 2 x - 3 = x - 7, 0 is 2 x - 4 = -12, 5 is 7 x - 4 = -32, 560 is 2 x + 0 = -8
        explains("b and c added", 3, 147, 3, 0, 0, -10);
        explains("b and c added, all signs", 3, 147, -3, 0, 0, 10);
        explains("four rules are too many", NONE, 147, 0, 10, -3, 0);
        explains("a row that is wrong and leads elsewhere", NONE, 147, -10, 0, 0, 3);
        explains("b added, divided, two signs", 9, 0, -1, 0, 0, -8);
        explains("two signs, sides changed, c added", 10, 0, -2, -12, 0, 4);
        explains("b moved, d not divided", 16, 5, 1, 0, 0, -28);
        explains("b and c must be 0 to divide", NONE, 5, 1, -4, 0, -32);
        explains("b added, -36 is not divided by 7", NONE, 5, 1, 0, 0, -36);
        explains("b added, d not divided", 17, 0, 1, 0, 0, -16);
        explains("b added, divided", 1, 0, 1, 0, 0, -8);
        explains("d not divided, sides changed, c added", 18, 560, 1, -8, 0, 0);
        explains("b moved, d not divided, two signs", 24, 5, -1, 0, 0, -28);
        explains("three broken ones", 25, 0, -1, 0, 0, -16);
        explains("d is not divided, b does nothing", 16, 560, 1, 0, 0, -8);
        explains("two signs, divided, b does nothing", 8, 560, 1, 0, 0, 4);
        explains("two signs by one rule, or d by another: the least sum", 1, 560, -2, 0, 0, -8);
        explains("b moved behind two signs: one broken is less than two", 8, 147, -2, 0, 1, -10);
        // b by the broken 0th, sides changed, what was d by the broken 0th again
        explains("the same rule twice counts once", 1, 147, 1, 0, 2, -10);
    }

    private static void explainLastWrongStep() {
        Tutorlight x = Teachers.withExercise(147);
        x.step(0, 2, 0, 1, -10);
        x.step(0, 3, -3, 0, -7);
        Check.same("20: the last wrong one", 2, () -> x.explain(0));
        Check.same("20: asked again", 2, () -> x.explain(0));
        x.step(0, 1, -3, 0, -7);
        Check.same("20: a right one behind it", 2, () -> x.explain(0));
        x.step(0, 1, 0, 0, -4);
        Check.same("20: solved", 2, () -> x.explain(0));
        x.make(0, 1, 0);
        Check.same("20: in another exercise", 2, () -> x.explain(0));
        x.step(0, 2, 0, 0, -16);
        Check.same("20: wrong in the other one", 1, () -> x.explain(0));
        Check.refuses("20: a step out of range", BAD, () -> x.step(0, 3, 0, 0, 10000));
        Check.same("20: it changed nothing", 1, () -> x.explain(0));
    }

    private static void hint() {
        Tutorlight x = Teachers.withExercise(147);
        Check.refuses("21: no learner", NO_INDEX, () -> x.hint(2));
        Check.refuses("21: no learner", NO_INDEX, () -> x.hint(-1));
        Check.refuses("21: no exercise", STATE, () -> x.hint(1));
        Check.same("21: c and b are not 0", 1, () -> x.hint(0));
        x.step(0, 2, 0, 1, -4);
        Check.same("21: c is not 0", 1, () -> x.hint(0));
        x.step(0, 1, -3, 0, -7);
        Check.same("21: b is not 0", 0, () -> x.hint(0));
        x.step(0, -3, 0, 0, 12);
        Check.same("21: a is not 1", 4, () -> x.hint(0));
        x.step(0, -1, 0, 0, 4);
        Check.same("21: a is -1", 4, () -> x.hint(0));
        x.step(0, 0, -4, 1, 0);
        Check.same("21: sides changed", 1, () -> x.hint(0));
        x.step(0, 1, 0, 0, -4);
        Check.refuses("21: solved", STATE, () -> x.hint(0));
    }

    private static void faults() {
        Tutorlight x = Teachers.withExercise(147);
        Check.refuses("22: no learner", NO_INDEX, () -> x.faults(2));
        Check.refuses("22: no learner", NO_INDEX, () -> x.faults(-1));
        Check.refuses("22: no exercise", STATE, () -> x.faults(1));
        Check.same("22: none", 0, () -> x.faults(0));
        x.hint(0);
        x.hint(0);
        Check.same("22: two hints", 2, () -> x.faults(0));
        x.step(0, 1, 0, 0, 0);
        x.step(0, 1, -3, 0, -7);
        Check.same("22: one wrong step, one right", 12, () -> x.faults(0));
        for (int i = 0; i < 9; i++) {
            x.hint(0);
        }
        Check.same("22: eleven hints", 21, () -> x.faults(0));
        x.make(0, 0, 0);
        Check.same("22: another exercise", 0, () -> x.faults(0));
        x.step(0, 1, 0, 0, -4);
        Check.refuses("22: solved", STATE, () -> x.faults(0));
    }
}
