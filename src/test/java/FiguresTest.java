/** Promises 23 to 26: figures. */
public final class FiguresTest {
    private static final Class<? extends Exception> NO_INDEX = IndexOutOfBoundsException.class;
    private static final Class<? extends Exception> NO_NUMBER = ArithmeticException.class;

    public static void main(String[] args) throws Exception {
        checksum();
        knownShare();
        meanOdds();
        soundObjects();
        unsoundObjects();
        Check.finish("FiguresTest");
    }

    private static void checksum() {
        Check.same("23: nothing", 0L, () -> new Tutorlight().checksum());
        Check.same("23: no learners", 0L, () -> Teachers.with(3, 0).checksum());
        Check.same("23: no skills", 0L, () -> Teachers.with(0, 3).checksum());
        Tutorlight x = Teachers.with(2, 2);
        x.setOdds(0, 0, 1);
        x.setOdds(0, 1, 2);
        x.setOdds(1, 0, 3);
        x.setOdds(1, 1, 4);
        Check.same("23: learners, then skills", ((31L + 2) * 31 + 3) * 31 + 4, () -> x.checksum());
        Tutorlight full = Teachers.with(10, 4);
        long sum = 0;
        for (int i = 0; i < 40; i++) {
            full.setOdds(i / 10, i % 10, 960 + i);
            sum = sum * 31 + 960 + i;
        }
        Check.same("23: it wraps around", sum, () -> full.checksum());
    }

    private static void knownShare() {
        Check.refuses("24: nothing", NO_NUMBER, () -> new Tutorlight().knownShare());
        Check.refuses("24: no learners", NO_NUMBER, () -> Teachers.with(3, 0).knownShare());
        Check.refuses("24: no skills", NO_NUMBER, () -> Teachers.with(0, 3).knownShare());
        Tutorlight x = Teachers.with(3, 1);
        Check.same("24: none is known", 0.0f, () -> x.knownShare());
        x.setOdds(0, 0, 699);
        Check.same("24: just not known", 0.0f, () -> x.knownShare());
        x.setOdds(0, 0, 700);
        Check.same("24: just known", 1.0f / 3.0f, () -> x.knownShare());
        x.setOdds(0, 1, 1000);
        x.setOdds(0, 2, 1000);
        Check.same("24: all", 1.0f, () -> x.knownShare());
        x.addLearner();
        Check.same("24: of both learners", 0.5f, () -> x.knownShare());
    }

    private static void meanOdds() {
        Check.refuses("25: no skill", NO_INDEX, () -> new Tutorlight().meanOdds(0));
        Check.refuses("25: no learners", NO_NUMBER, () -> Teachers.with(1, 0).meanOdds(0));
        Check.refuses("25: no such skill, no learners", NO_INDEX, () -> Teachers.with(1, 0).meanOdds(1));
        Tutorlight x = Teachers.with(2, 3);
        Check.refuses("25: below 0", NO_INDEX, () -> x.meanOdds(-1));
        Check.refuses("25: a skill too many", NO_INDEX, () -> x.meanOdds(2));
        x.setOdds(0, 1, 0);
        x.setOdds(1, 1, 1);
        x.setOdds(2, 1, 1000);
        Check.same("25: the mean", 1001.0 / 3.0, () -> x.meanOdds(1));
        Check.same("25: of the other skill", 200.0, () -> x.meanOdds(0));
    }

    private static void soundObjects() {
        Check.same("26: nothing", true, () -> new Tutorlight().isSound());
        Tutorlight x = Teachers.with(10, 4);
        Check.same("26: no answers", true, () -> x.isSound());
        for (int i = 0; i < 120; i++) {
            x.answer(i % 4, i * 7 % 10, i % 3 != 0);
            Check.same("26: behind an answer", true, () -> x.isSound());
        }
        x.setOdds(0, 0, 5);
        x.make(0, 0, 147);
        x.step(0, 1, -3, 0, -7);
        x.step(0, 1, -3, 0, 7);
        x.nextDay();
        Check.same("26: with an exercise", true, () -> x.isSound());
    }

    /** No call makes an object unsound: these reach inside it. */
    private static void unsoundObjects() throws Exception {
        Tutorlight x = Teachers.with(3, 2);
        Inside.setOdds(x, 1, 2, 201);
        Check.same("26: other odds by the other way", false, () -> x.isSound());
        Inside.setOdds(x, 1, 2, 200);
        Check.same("26: the same odds", true, () -> x.isSound());
        Inside.setOdds(x, 0, 0, 199);
        Check.same("26: of the first learner and skill", false, () -> x.isSound());
        Inside.setOdds(x, 0, 0, 200);
        for (int skill = 0; skill < 3; skill++) {
            Inside.setDueDay(x, 1, skill, 1);
        }
        Check.same("26: three on one day", false, () -> x.isSound());
        x.nextDay();
        Check.same("26: that day is not behind this one", true, () -> x.isSound());
        x.make(0, 0, 0);
        Inside.setEquation(x, 0, 2, -4, 0, -14);
        Check.same("26: another solution", false, () -> x.isSound());
        Inside.setEquation(x, 0, 2, 4, 0, -12);
        Check.same("26: another solution by b", false, () -> x.isSound());
        Inside.setEquation(x, 0, 2, -4, 0, -12);
        Check.same("26: the solution", true, () -> x.isSound());
    }
}
