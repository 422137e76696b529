import java.math.BigInteger;

/** The boundary cases of the promises 23 to 26: figures. */
final class FiguresEdges {
    private static final Class<? extends Exception> NO_INDEX = IndexOutOfBoundsException.class;
    private static final Class<? extends Exception> NO_NUMBER = ArithmeticException.class;

    private FiguresEdges() {
    }

    static void run() {
        Edge.of(23, "Returns 0 at first", FiguresEdges::sumOfNothing);
        Edge.of(23, "then for each learner and skill 31 times itself plus the odds", FiguresEdges::sumWrapsAround);

        Edge.of(24, "Returns the share of odds that are 700 or more", FiguresEdges::shareFrom700);
        Edge.of(24, "both converted to float", FiguresEdges::shareAsFloat);
        Edge.of(24, "Throws ArithmeticException if there are no learners or no skills", FiguresEdges::shareOfNothing);

        Edge.of(25, "both converted to double", FiguresEdges::meanAsDouble);
        Edge.of(25, "Throws IndexOutOfBoundsException if there is no such skill", FiguresEdges::meanOfNoSkill);
        Edge.of(25, "Throws ArithmeticException if there are no learners", FiguresEdges::meanOfNobody);
        Edge.of(25, Edge.FIRST_OF_SEVERAL,
                FiguresEdges::meanOfNoSkillOfNobody);

        Edge.of(26, "Returns whether all is sound", FiguresEdges::nothingIsSound);
        Edge.of(26, "all odds are the same by both ways", FiguresEdges::oddsByBothWays);
        Edge.of(26, "no more than 2 skills of a learner are due on one day behind this one", FiguresEdges::twoOnOneDay);
        Edge.of(26, "the solution of each exercise that is not solved is the one with which it was made",
                FiguresEdges::solutionOfEachExercise);
    }

    private static void sumOfNothing() {
        Check.same("nothing", 0L, () -> new Tutorlight().checksum());
        Check.same("no skills", 0L, () -> Teachers.with(0, 4).checksum());
        Check.same("no learners", 0L, () -> Teachers.with(10, 0).checksum());
        Check.same("one of each", 200L, () -> Teachers.with(1, 1).checksum());
        Tutorlight x = Teachers.with(1, 1);
        x.setOdds(0, 0, 0);
        Check.same("odds of 0", 0L, () -> x.checksum());
    }

    /** The sum over odds of 994 to 1000, in numbers that never wrap around. */
    private static BigInteger sumOf(int count) {
        BigInteger sum = BigInteger.ZERO;
        for (int i = 0; i < count; i++) {
            sum = sum.multiply(BigInteger.valueOf(31)).add(BigInteger.valueOf(994 + i % 7));
        }
        return sum;
    }

    private static void sumWrapsAround() {
        for (int learners = 1; learners <= 4; learners++) {
            for (int skills = 1; skills <= 10; skills++) {
                Tutorlight x = Teachers.with(skills, learners);
                int count = learners * skills;
                for (int i = 0; i < count; i++) {
                    x.setOdds(i / skills, i % skills, 994 + i % 7);
                }
                String what = learners + " learners, " + skills + " skills";
                Check.same(what, sumOf(count).longValue(), () -> x.checksum());
            }
        }
        Check.same("11 odds fit", true, () -> sumOf(11).bitLength() < 64);
        Check.same("12 odds wrap around", true, () -> sumOf(12).bitLength() >= 64);
    }

    private static void shareFrom700() {
        Tutorlight x = Teachers.with(2, 2);
        Check.same("none", 0.0f, () -> x.knownShare());
        x.setOdds(1, 1, 699);
        Check.same("699", 0.0f, () -> x.knownShare());
        x.setOdds(1, 1, 700);
        Check.same("700", 0.25f, () -> x.knownShare());
        x.setOdds(0, 0, 1000);
        x.setOdds(0, 1, 701);
        x.setOdds(1, 0, 700);
        Check.same("all", 1.0f, () -> x.knownShare());
    }

    private static void shareAsFloat() {
        Tutorlight x = Teachers.with(10, 3);
        for (int i = 0; i < 30; i++) {
            x.setOdds(i / 10, i % 10, 700);
            float due = (float) (i + 1) / 30.0f;
            Check.same((i + 1) + " of 30", due, () -> x.knownShare());
        }
    }

    private static void shareOfNothing() {
        Twins.refuse("neither", NO_NUMBER, Tutorlight::new, x -> x.knownShare());
        Twins.refuse("no learners", NO_NUMBER, () -> Teachers.with(10, 0), x -> x.knownShare());
        Twins.refuse("no skills", NO_NUMBER, () -> Teachers.with(0, 4), x -> x.knownShare());
        Check.same("one of each", 0.0f, () -> Teachers.with(1, 1).knownShare());
    }

    private static void meanAsDouble() {
        Tutorlight x = Teachers.with(10, 3);
        x.setOdds(0, 9, 0);
        x.setOdds(1, 9, 0);
        x.setOdds(2, 9, 1);
        Check.same("a third", 1.0 / 3.0, () -> x.meanOdds(9));
        x.setOdds(0, 9, 1000);
        x.setOdds(1, 9, 1000);
        Check.same("2001 thirds", 2001.0 / 3.0, () -> x.meanOdds(9));
        x.setOdds(1, 9, 999);
        Check.same("2000 thirds", 2000.0 / 3.0, () -> x.meanOdds(9));
        Check.same("of another skill", 200.0, () -> x.meanOdds(8));
        Tutorlight one = Teachers.with(1, 1);
        one.setOdds(0, 0, 0);
        Check.same("0 of one", 0.0, () -> one.meanOdds(0));
    }

    private static void meanOfNoSkill() {
        for (int wrong : new int[] {-1, 5, Integer.MIN_VALUE, Integer.MAX_VALUE}) {
            Twins.refuse("skill " + wrong, NO_INDEX, Teachers::busy, x -> x.meanOdds(wrong));
        }
        Twins.refuse("skill 10 of 10", NO_INDEX, Teachers::full, x -> x.meanOdds(10));
        Twins.refuse("no skills", NO_INDEX, () -> Teachers.with(0, 4), x -> x.meanOdds(0));
    }

    private static void meanOfNobody() {
        Twins.refuse("the first skill", NO_NUMBER, () -> Teachers.with(1, 0), x -> x.meanOdds(0));
        Twins.refuse("the last skill", NO_NUMBER, () -> Teachers.with(10, 0), x -> x.meanOdds(9));
    }

    private static void meanOfNoSkillOfNobody() {
        Twins.refuse("nothing", NO_INDEX, Tutorlight::new, x -> x.meanOdds(0));
        Twins.refuse("skill 10 of 10", NO_INDEX, () -> Teachers.with(10, 0), x -> x.meanOdds(10));
        Twins.refuse("skill -1", NO_INDEX, () -> Teachers.with(10, 0), x -> x.meanOdds(-1));
    }

    private static void nothingIsSound() {
        Check.same("nothing", true, () -> new Tutorlight().isSound());
        Check.same("no skills", true, () -> Teachers.with(0, 4).isSound());
        Check.same("no learners", true, () -> Teachers.with(10, 0).isSound());
        Check.same("no answers", true, () -> Teachers.with(10, 4).isSound());
        Check.same("all of it", true, () -> Teachers.full().isSound());
    }

    private static void oddsByBothWays() throws Exception {
        Tutorlight x = Teachers.busy();
        x.setOdds(1, 4, 1000);
        Check.same("answered, told, and both", true, () -> x.isSound());
        Inside.setOdds(x, 1, 4, 999);
        Check.same("1 less, of the last of both", false, () -> x.isSound());
        Inside.setOdds(x, 1, 4, 1000);
        Check.same("as they were", true, () -> x.isSound());
        Inside.setOdds(x, 0, 0, 700);
        Check.same("1 more, of the first of both", false, () -> x.isSound());
    }

    private static void twoOnOneDay() throws Exception {
        Tutorlight x = Teachers.with(10, 4);
        for (int i = 0; i < 10; i++) {
            x.answer(3, i, true);
        }
        Check.same("two on each of five days", true, () -> x.isSound());
        Inside.setDueDay(x, 3, 9, 4);
        Check.same("three on the day 4", false, () -> x.isSound());
        Teachers.goOn(x, 3);
        Check.same("the day 4 is the next one", false, () -> x.isSound());
        x.nextDay();
        Check.same("the day 4 is this one", true, () -> x.isSound());
        x.nextDay();
        Check.same("the day 4 is before this one", true, () -> x.isSound());
        x.answer(2, 0, true);
        x.answer(1, 0, true);
        x.answer(0, 0, true);
        Check.same("three learners on the day 6", true, () -> x.isSound());
    }

    private static void solutionOfEachExercise() throws Exception {
        Tutorlight x = Teachers.full();
        x.make(0, 0, 0);
        x.step(0, 9999, 9999, 7499, -1);
        Check.same("behind steps", true, () -> x.isSound());
        Inside.setEquation(x, 0, 1, 0, 0, -3);
        Check.same("another solution, of the first learner", false, () -> x.isSound());
        Inside.setEquation(x, 0, 1, 0, 1, -4);
        Check.same("no solution", false, () -> x.isSound());
        Inside.setEquation(x, 0, 1, -4, 1, -4);
        Check.same("all solutions", false, () -> x.isSound());
        Inside.setEquation(x, 0, 0, -4, 1, 0);
        Check.same("the solution", true, () -> x.isSound());
        Inside.setEquation(x, 3, 2, -3, 1, -8);
        Check.same("another solution, of the last learner", false, () -> x.isSound());
        x.make(3, 0, 0);
        x.step(3, 1, 0, 0, -4);
        Check.same("the last one is solved", true, () -> x.isSound());
    }
}
