import java.util.NoSuchElementException;

/** A teacher of at most four learners in at most ten skills. */
public final class Tutorlight {
    private static final int MOST_SKILLS = 10;
    private static final int MOST_LEARNERS = 4;
    private static final int MOST_ANSWERS = 512;
    private static final int LAST_DAY = 200;
    private static final int MOST_DUE_A_DAY = 2;
    private static final int WHOLE = 1000;
    private static final int MOST_THOUSANDTHS = 500;
    private static final int FIRST_ODDS = 200;
    private static final int KNOWN_ODDS = 700;
    private static final int NUMBERS = 1260;
    private static final int REMEMBERED_EXERCISES = 3;
    private static final int MOST_TOLD = 9999;
    private static final int NONE = -1;

    private final Skill[] skills = new Skill[MOST_SKILLS];
    private final Learner[] learners = new Learner[MOST_LEARNERS];
    private final Explainer explainer = new Explainer();
    private int skillCount;
    private int learnerCount;
    private int day;

    public Tutorlight() {
    }

    // Skills and learners

    public int addSkill(int guess, int slip, int gain) throws IllegalArgumentException, IllegalStateException {
        checkThousandths(guess);
        checkThousandths(slip);
        checkThousandths(gain);
        if (skillCount >= skills.length) {
            throw new IllegalStateException("no room for another skill");
        }
        skills[skillCount] = new Skill(guess, slip, gain);
        skillCount++;
        return skillCount - 1;
    }

    public boolean addNeed(int skill, int needed) throws IndexOutOfBoundsException, IllegalArgumentException {
        Skill needing = skillAt(skill);
        skillAt(needed);
        if (comesToNeed(needed, skill)) {
            throw new IllegalArgumentException("a skill came to need itself");
        }
        if (needing.needs(needed)) {
            return false;
        }
        needing.neededSkills |= 1 << needed;
        return true;
    }

    public int addLearner() throws IllegalStateException {
        if (learnerCount >= learners.length) {
            throw new IllegalStateException("no room for another learner");
        }
        learners[learnerCount] = new Learner();
        learnerCount++;
        return learnerCount - 1;
    }

    public boolean open(int learner, int skill) throws IndexOutOfBoundsException {
        Learner pupil = learnerAt(learner);
        skillAt(skill);
        boolean wasOpen = isOpenFor(pupil, skill);
        // The teacher's word is kept for an open skill too, since it outlasts the odds.
        pupil.masteries[skill].isOpenedByTeacher = true;
        return !wasOpen;
    }

    public boolean isOpen(int learner, int skill) throws IndexOutOfBoundsException {
        Learner pupil = learnerAt(learner);
        skillAt(skill);
        return isOpenFor(pupil, skill);
    }

    public int setOdds(int learner, int skill, int odds) throws IndexOutOfBoundsException, IllegalArgumentException {
        Mastery mastery = masteryAt(learner, skill);
        if (odds < 0 || odds > WHOLE) {
            throw new IllegalArgumentException("odds out of range");
        }
        int before = mastery.odds;
        mastery.tellOdds(odds);
        return before;
    }

    public int answer(int learner, int skill, boolean isRight) throws IndexOutOfBoundsException, IllegalStateException {
        Learner pupil = learnerAt(learner);
        skillAt(skill);
        checkOpen(pupil, skill);
        noteAnswer(pupil, skill, isRight);
        return pupil.masteries[skill].odds;
    }

    public int odds(int learner, int skill) throws IndexOutOfBoundsException {
        return masteryAt(learner, skill).odds;
    }

    public int oddsAnew(int learner, int skill) throws IndexOutOfBoundsException {
        Mastery mastery = masteryAt(learner, skill);
        return mastery.oddsFromAnswers(skillAt(skill));
    }

    public int answers(int learner, int skill) throws IndexOutOfBoundsException {
        return masteryAt(learner, skill).answerCount;
    }

    // Days and reviews

    public int nextDay() throws ArithmeticException {
        if (day >= LAST_DAY) {
            throw new ArithmeticException("no day behind the last one");
        }
        day++;
        return day;
    }

    public int due(int learner, int skill) throws IndexOutOfBoundsException, NoSuchElementException {
        Mastery mastery = masteryAt(learner, skill);
        if (!mastery.wasAnswered()) {
            throw new NoSuchElementException("never answered");
        }
        return mastery.dueDay;
    }

    public int reviews(int learner) throws IndexOutOfBoundsException {
        Learner pupil = learnerAt(learner);
        int count = 0;
        for (int skill = 0; skill < skillCount; skill++) {
            if (pupil.masteries[skill].isDueBy(day)) {
                count++;
            }
        }
        return count;
    }

    public int reviewAt(int learner, int index) throws IndexOutOfBoundsException, NoSuchElementException {
        Learner pupil = learnerAt(learner);
        for (int skill = 0; skill < skillCount; skill++) {
            if (pupil.masteries[skill].isDueBy(day) && reviewsAheadOf(pupil, skill) == index) {
                return skill;
            }
        }
        throw new NoSuchElementException("no such review");
    }

    public int choose(int learner) throws IndexOutOfBoundsException, NoSuchElementException {
        Learner pupil = learnerAt(learner);
        int chosen = firstOpenReview(pupil);
        if (chosen == NONE) {
            chosen = bestNewSkill(pupil);
        }
        if (chosen == NONE) {
            throw new NoSuchElementException("nothing to do");
        }
        return chosen;
    }

    // Exercises

    public int make(int learner, int skill, int number)
            throws IndexOutOfBoundsException, IllegalArgumentException, IllegalStateException {
        Learner pupil = learnerAt(learner);
        skillAt(skill);
        if (number < 0 || number >= NUMBERS) {
            throw new IllegalArgumentException("number out of range");
        }
        checkOpen(pupil, skill);
        int taken = number;
        // Each number that is passed over is one of the remembered ones.
        for (int passed = 0; passed < REMEMBERED_EXERCISES && pupil.remembers(taken); passed++) {
            taken = (taken + 1) % NUMBERS;
        }
        pupil.remember(taken);
        pupil.exercise = new Exercise(skill, taken);
        return taken;
    }

    public int part(int learner, char which)
            throws IndexOutOfBoundsException, IllegalArgumentException, IllegalStateException {
        Learner pupil = learnerAt(learner);
        if (which < 'a' || which > 'd') {
            throw new IllegalArgumentException("no such part");
        }
        return exerciseOf(pupil).equation.numberNamed(which);
    }

    public char step(int learner, int a, int b, int c, int d)
            throws IndexOutOfBoundsException, IllegalArgumentException, IllegalStateException {
        Learner pupil = learnerAt(learner);
        checkTold(a);
        checkTold(b);
        checkTold(c);
        checkTold(d);
        Exercise exercise = exerciseOf(pupil);
        Equation told = new Equation(a, b, c, d);
        if (!told.hasSameSolutionsAs(exercise.equation)) {
            exercise.wrongSteps++;
            pupil.wrongStep = new WrongStep(exercise.equation, told);
            return 'w';
        }
        exercise.equation = told;
        if (!told.isSolved()) {
            return 'f';
        }
        pupil.exercise = null;
        noteAnswer(pupil, exercise.skill, exercise.isFaultless());
        return 's';
    }

    public int explain(int learner) throws IndexOutOfBoundsException, IllegalStateException, NoSuchElementException {
        WrongStep wrongStep = learnerAt(learner).wrongStep;
        if (wrongStep == null) {
            throw new IllegalStateException("no step was wrong");
        }
        int explanation = explainer.explanationOf(wrongStep);
        if (explanation == NONE) {
            throw new NoSuchElementException("no explanation");
        }
        return explanation;
    }

    public int hint(int learner) throws IndexOutOfBoundsException, IllegalStateException {
        Exercise exercise = exerciseOf(learnerAt(learner));
        exercise.hints++;
        return exercise.equation.ruleToTry();
    }

    public int faults(int learner) throws IndexOutOfBoundsException, IllegalStateException {
        Exercise exercise = exerciseOf(learnerAt(learner));
        return 10 * exercise.wrongSteps + exercise.hints;
    }

    // Figures

    public long checksum() {
        long sum = 0;
        for (int learner = 0; learner < learnerCount; learner++) {
            for (int skill = 0; skill < skillCount; skill++) {
                sum = 31 * sum + learners[learner].masteries[skill].odds;
            }
        }
        return sum;
    }

    public float knownShare() throws ArithmeticException {
        int all = learnerCount * skillCount;
        if (all == 0) {
            throw new ArithmeticException("no odds");
        }
        int known = 0;
        for (int learner = 0; learner < learnerCount; learner++) {
            for (int skill = 0; skill < skillCount; skill++) {
                if (learners[learner].masteries[skill].odds >= KNOWN_ODDS) {
                    known++;
                }
            }
        }
        return (float) known / (float) all;
    }

    public double meanOdds(int skill) throws IndexOutOfBoundsException, ArithmeticException {
        skillAt(skill);
        if (learnerCount == 0) {
            throw new ArithmeticException("no learners");
        }
        int sum = 0;
        for (int learner = 0; learner < learnerCount; learner++) {
            sum += learners[learner].masteries[skill].odds;
        }
        return (double) sum / (double) learnerCount;
    }

    public boolean isSound() {
        for (int learner = 0; learner < learnerCount; learner++) {
            Learner pupil = learners[learner];
            if (!areOddsSound(pupil) || !areDaysSound(pupil) || !isExerciseSound(pupil)) {
                return false;
            }
        }
        return true;
    }

    // What the calls refuse

    private static void checkThousandths(int number) {
        if (number < 0 || number > MOST_THOUSANDTHS) {
            throw new IllegalArgumentException("thousandths out of range");
        }
    }

    private static void checkTold(int number) {
        if (number < -MOST_TOLD || number > MOST_TOLD) {
            throw new IllegalArgumentException("number out of range");
        }
    }

    private void checkOpen(Learner pupil, int skill) {
        if (!isOpenFor(pupil, skill)) {
            throw new IllegalStateException("the skill is not open");
        }
    }

    private Skill skillAt(int skill) {
        if (skill < 0 || skill >= skillCount) {
            throw new IndexOutOfBoundsException("no such skill");
        }
        return skills[skill];
    }

    private Learner learnerAt(int learner) {
        if (learner < 0 || learner >= learnerCount) {
            throw new IndexOutOfBoundsException("no such learner");
        }
        return learners[learner];
    }

    private Mastery masteryAt(int learner, int skill) {
        Learner pupil = learnerAt(learner);
        skillAt(skill);
        return pupil.masteries[skill];
    }

    private static Exercise exerciseOf(Learner pupil) {
        if (pupil.exercise == null) {
            throw new IllegalStateException("no exercise");
        }
        return pupil.exercise;
    }

    // Skills

    /** Tells whether the skill is the sought one, or needs it, over others too. */
    private boolean comesToNeed(int skill, int sought) {
        int reached = 1 << skill;
        // A way to the sought skill has fewer steps than there are skills.
        for (int step = 0; step < skillCount; step++) {
            reached |= neededByAny(reached);
        }
        return (reached >> sought & 1) != 0;
    }

    private int neededByAny(int skillSet) {
        int needed = 0;
        for (int skill = 0; skill < skillCount; skill++) {
            if ((skillSet >> skill & 1) != 0) {
                needed |= skills[skill].neededSkills;
            }
        }
        return needed;
    }

    private boolean isOpenFor(Learner pupil, int skill) {
        if (pupil.masteries[skill].isOpenedByTeacher) {
            return true;
        }
        for (int needed = 0; needed < skillCount; needed++) {
            if (skills[skill].needs(needed) && pupil.masteries[needed].odds < KNOWN_ODDS) {
                return false;
            }
        }
        return true;
    }

    // Answers and reviews

    private void noteAnswer(Learner pupil, int skill, boolean isRight) {
        Mastery mastery = pupil.masteries[skill];
        mastery.noteAnswer(skills[skill], isRight);
        mastery.dueDay = firstFreeDay(pupil, skill, day + mastery.daysToWait());
    }

    private int firstFreeDay(Learner pupil, int skill, int wanted) {
        int free = wanted;
        // A full day takes at least one other skill, so fewer days are full than there are skills.
        for (int passed = 0; passed < skillCount && othersDueOn(pupil, skill, free) >= MOST_DUE_A_DAY; passed++) {
            free++;
        }
        return free;
    }

    private int othersDueOn(Learner pupil, int skill, int thatDay) {
        int count = 0;
        for (int other = 0; other < skillCount; other++) {
            if (other != skill && pupil.masteries[other].dueDay == thatDay) {
                count++;
            }
        }
        return count;
    }

    private int reviewsAheadOf(Learner pupil, int skill) {
        int dueDay = pupil.masteries[skill].dueDay;
        int count = 0;
        for (int other = 0; other < skillCount; other++) {
            Mastery mastery = pupil.masteries[other];
            boolean isAhead = mastery.dueDay < dueDay || mastery.dueDay == dueDay && other < skill;
            if (mastery.isDueBy(day) && isAhead) {
                count++;
            }
        }
        return count;
    }

    private int firstOpenReview(Learner pupil) {
        int first = NONE;
        int firstDay = 0;
        for (int skill = 0; skill < skillCount; skill++) {
            Mastery mastery = pupil.masteries[skill];
            boolean isEarlier = first == NONE || mastery.dueDay < firstDay;
            if (mastery.isDueBy(day) && isEarlier && isOpenFor(pupil, skill)) {
                first = skill;
                firstDay = mastery.dueDay;
            }
        }
        return first;
    }

    private int bestNewSkill(Learner pupil) {
        int best = NONE;
        int bestProduct = -1;
        for (int skill = 0; skill < skillCount; skill++) {
            Mastery mastery = pupil.masteries[skill];
            int product = (WHOLE - mastery.odds) * skills[skill].gain;
            if (!mastery.wasAnswered() && product > bestProduct && isOpenFor(pupil, skill)) {
                best = skill;
                bestProduct = product;
            }
        }
        return best;
    }

    // Soundness

    private boolean areOddsSound(Learner pupil) {
        for (int skill = 0; skill < skillCount; skill++) {
            Mastery mastery = pupil.masteries[skill];
            if (mastery.odds != mastery.oddsFromAnswers(skills[skill])) {
                return false;
            }
        }
        return true;
    }

    private boolean areDaysSound(Learner pupil) {
        for (int skill = 0; skill < skillCount; skill++) {
            int dueDay = pupil.masteries[skill].dueDay;
            if (dueDay > day && othersDueOn(pupil, skill, dueDay) >= MOST_DUE_A_DAY) {
                return false;
            }
        }
        return true;
    }

    private static boolean isExerciseSound(Learner pupil) {
        Exercise exercise = pupil.exercise;
        return exercise == null || exercise.equation.hasOnlySolution(exercise.solution);
    }

    /** A skill, with its guess, slip and gain in thousandths. */
    private static final class Skill {
        final int guess;
        final int slip;
        final int gain;
        /** A bit for each skill that this one needs itself. */
        int neededSkills;

        Skill(int guess, int slip, int gain) {
            this.guess = guess;
            this.slip = slip;
            this.gain = gain;
        }

        boolean needs(int skill) {
            return (neededSkills >> skill & 1) != 0;
        }

        int oddsAfter(int before, boolean isRight) {
            int ifKnown = before * (isRight ? WHOLE - slip : slip);
            int ifUnknown = (WHOLE - before) * (isRight ? guess : WHOLE - guess);
            int sum = ifKnown + ifUnknown;
            int judged = before;
            if (sum != 0) {
                judged = ifKnown * WHOLE / sum;
            }
            return judged + (WHOLE - judged) * gain / WHOLE;
        }
    }

    /** What is held of one learner in one skill. */
    private static final class Mastery {
        private static final int BITS = 64;
        private static final int MOST_DOUBLINGS = 4;

        int odds = FIRST_ODDS;
        int answerCount;
        int dueDay = NONE;
        boolean isOpenedByTeacher;
        private int toldOdds = FIRST_ODDS;
        private int rightInRow;
        /** A bit for each known answer, 1 for a right one. */
        private final long[] rightAnswers = new long[MOST_ANSWERS / BITS];

        void tellOdds(int told) {
            odds = told;
            toldOdds = told;
            answerCount = 0;
        }

        void noteAnswer(Skill skill, boolean isRight) {
            // An answer that can't be kept must not move the odds: they could not be found anew.
            if (answerCount < 0 || answerCount >= MOST_ANSWERS) {
                return;
            }
            long bit = 1L << answerCount % BITS;
            int word = answerCount / BITS;
            rightAnswers[word] = isRight ? rightAnswers[word] | bit : rightAnswers[word] & ~bit;
            answerCount++;
            odds = skill.oddsAfter(odds, isRight);
            rightInRow = isRight ? rightInRow + 1 : 0;
        }

        int oddsFromAnswers(Skill skill) {
            int found = toldOdds;
            for (int i = 0; i < answerCount && i < MOST_ANSWERS; i++) {
                boolean isRight = (rightAnswers[i / BITS] >> i % BITS & 1L) != 0;
                found = skill.oddsAfter(found, isRight);
            }
            return found;
        }

        int daysToWait() {
            return rightInRow == 0 ? 1 : 1 << Math.min(rightInRow - 1, MOST_DOUBLINGS);
        }

        boolean wasAnswered() {
            return dueDay != NONE;
        }

        boolean isDueBy(int day) {
            return wasAnswered() && dueDay <= day;
        }
    }

    /** A learner, with the exercise that is not solved, if there is one. */
    private static final class Learner {
        final Mastery[] masteries = new Mastery[MOST_SKILLS];
        Exercise exercise;
        WrongStep wrongStep;
        private final int[] lastNumbers = new int[REMEMBERED_EXERCISES];
        private int oldestNumber;

        Learner() {
            for (int skill = 0; skill < masteries.length; skill++) {
                masteries[skill] = new Mastery();
            }
            for (int i = 0; i < lastNumbers.length; i++) {
                lastNumbers[i] = NONE;
            }
        }

        /** Compares the numbers, as two of them below 1260 never make the same equation. */
        boolean remembers(int number) {
            for (int i = 0; i < lastNumbers.length; i++) {
                if (lastNumbers[i] == number) {
                    return true;
                }
            }
            return false;
        }

        void remember(int number) {
            lastNumbers[oldestNumber] = number;
            oldestNumber = (oldestNumber + 1) % REMEMBERED_EXERCISES;
        }
    }

    /** An exercise that is not solved yet. */
    private static final class Exercise {
        final int skill;
        final int solution;
        Equation equation;
        int wrongSteps;
        int hints;

        Exercise(int skill, int number) {
            this.skill = skill;
            solution = number / 14 % 10 - 4;
            int a = 2 + number % 7;
            int b = number / 140 % 9 - 4;
            int c = number / 7 % 2;
            equation = new Equation(a, b, c, a * solution + b - c * solution);
        }

        boolean isFaultless() {
            return wrongSteps == 0 && hints == 0;
        }
    }

    /** A wrong step, from the equation that the learner had to the one that was told. */
    private static final class WrongStep {
        final Equation had;
        final Equation told;

        WrongStep(Equation had, Equation told) {
            this.had = had;
            this.told = told;
        }
    }

    /** The equation a x + b = c x + d. */
    private static final class Equation {
        static final int TAKE_B_RIGHT = 0;
        static final int TAKE_C_LEFT = 1;
        static final int CHANGE_SIDES = 2;
        static final int CHANGE_SIGNS = 3;
        static final int DIVIDE = 4;
        static final int RULES = 5;

        private int a;
        private int b;
        private int c;
        private int d;

        Equation(int a, int b, int c, int d) {
            this.a = a;
            this.b = b;
            this.c = c;
            this.d = d;
        }

        void become(Equation other) {
            a = other.a;
            b = other.b;
            c = other.c;
            d = other.d;
        }

        boolean isSameAs(Equation other) {
            return a == other.a && b == other.b && c == other.c && d == other.d;
        }

        int numberNamed(char name) {
            switch (name) {
                case 'a': return a;
                case 'b': return b;
                case 'c': return c;
                default: return d;
            }
        }

        boolean isSolved() {
            return a == 1 && b == 0 && c == 0;
        }

        boolean hasOnlySolution(int x) {
            return a != c && (long) (a - c) * x == d - b;
        }

        boolean hasSameSolutionsAs(Equation other) {
            // Either equation is: factor times x = rest.
            long factor = a - c;
            long rest = d - b;
            long otherFactor = other.a - other.c;
            long otherRest = other.d - other.b;
            if (factor == 0 || otherFactor == 0) {
                return factor == otherFactor && (rest == 0) == (otherRest == 0);
            }
            return rest * otherFactor == otherRest * factor;
        }

        void applyRule(int rule, boolean isBroken) {
            switch (rule) {
                case TAKE_B_RIGHT: takeBRight(isBroken); break;
                case TAKE_C_LEFT: takeCLeft(isBroken); break;
                case CHANGE_SIDES: changeSides(); break;
                case CHANGE_SIGNS: changeSigns(isBroken); break;
                case DIVIDE: divide(isBroken); break;
                default: break;
            }
        }

        private void takeBRight(boolean isBroken) {
            d = isBroken ? d + b : d - b;
            b = 0;
        }

        private void takeCLeft(boolean isBroken) {
            a = isBroken ? a + c : a - c;
            c = 0;
        }

        private void changeSides() {
            int oldA = a;
            int oldB = b;
            a = c;
            b = d;
            c = oldA;
            d = oldB;
        }

        private void changeSigns(boolean isBroken) {
            a = -a;
            b = -b;
            if (!isBroken) {
                c = -c;
                d = -d;
            }
        }

        private void divide(boolean isBroken) {
            if (b != 0 || c != 0 || a == 0 || d % a != 0) {
                return;
            }
            if (!isBroken) {
                d /= a;
            }
            a = 1;
        }

        /** Names the rule that a hint tells. */
        int ruleToTry() {
            if (isChangedBy(TAKE_C_LEFT)) {
                return TAKE_C_LEFT;
            }
            if (isChangedBy(TAKE_B_RIGHT)) {
                return TAKE_B_RIGHT;
            }
            return isChangedBy(DIVIDE) ? DIVIDE : CHANGE_SIGNS;
        }

        private boolean isChangedBy(int rule) {
            Equation changed = new Equation(a, b, c, d);
            changed.applyRule(rule, false);
            return !changed.isSameAs(this);
        }
    }

    /** Seeks the least set of broken rules; its equations are made once and used for each search. */
    private static final class Explainer {
        private static final int MOST_RULES = 3;

        /** For each length of a row the equation that the right rule leads to, and the broken one. */
        private final Equation[] byRight = new Equation[MOST_RULES];
        private final Equation[] byBroken = new Equation[MOST_RULES];
        private Equation sought;
        /** The best set so far: a bit for each rule that is broken. */
        private int best;

        Explainer() {
            for (int i = 0; i < MOST_RULES; i++) {
                byRight[i] = new Equation(0, 0, 0, 0);
                byBroken[i] = new Equation(0, 0, 0, 0);
            }
        }

        int explanationOf(WrongStep wrongStep) {
            sought = wrongStep.told;
            best = NONE;
            seek(this, wrongStep.had, 0, 0);
            return best;
        }

        private static void seek(Explainer explainer, Equation here, int length, int brokenSet) {
            // A longer row never breaks fewer rules, so a set that is no better ends it.
            if (!explainer.isBetter(brokenSet)) {
                return;
            }
            if (here.isSameAs(explainer.sought)) {
                explainer.best = brokenSet;
                return;
            }
            if (length < 0 || length >= MOST_RULES) {
                return;
            }
            Equation right = explainer.byRight[length];
            Equation broken = explainer.byBroken[length];
            for (int rule = 0; rule < Equation.RULES; rule++) {
                right.become(here);
                right.applyRule(rule, false);
                broken.become(here);
                broken.applyRule(rule, true);
                // A rule that changes nothing only makes a shorter row longer.
                if (!right.isSameAs(here)) {
                    seek(explainer, right, length + 1, brokenSet);
                }
                // Where both do the same, the rule does not count as broken.
                if (!broken.isSameAs(right)) {
                    seek(explainer, broken, length + 1, brokenSet | 1 << rule);
                }
            }
        }

        private boolean isBetter(int brokenSet) {
            if (best == NONE) {
                return true;
            }
            int fewer = Integer.bitCount(best) - Integer.bitCount(brokenSet);
            return fewer > 0 || fewer == 0 && brokenSet < best;
        }
    }
}
