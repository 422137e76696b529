/** The boundary cases of the promises 1 to 11: skills and learners. */
final class SkillsEdges {
    private static final Class<? extends Exception> NO_INDEX = IndexOutOfBoundsException.class;
    private static final Class<? extends Exception> BAD = IllegalArgumentException.class;
    private static final Class<? extends Exception> STATE = IllegalStateException.class;
    private static final String OUT_OF_RANGE = "Throws IllegalArgumentException if a number is out of range";

    private SkillsEdges() {
    }

    static void run() {
        Edge.of(1, "without skills and learners, on the day 0", SkillsEdges::nothingAtFirst);

        Edge.of(2, "At most 10 skills are numbered from 0", SkillsEdges::tenSkills);
        Edge.of(2, "Adds a skill that needs none", SkillsEdges::newSkillNeedsNone);
        Edge.of(2, "guess: the guess, 0 to 500", SkillsEdges::guessRange);
        Edge.of(2, "slip: the slip, 0 to 500", SkillsEdges::slipRange);
        Edge.of(2, "gain: the gain, 0 to 500", SkillsEdges::gainRange);
        Edge.of(2, OUT_OF_RANGE, SkillsEdges::anyOfThreeOutOfRange);
        Edge.of(2, "Throws IllegalStateException if there are 10 skills", SkillsEdges::eleventhSkill);
        Edge.of(2, Edge.FIRST_OF_SEVERAL, SkillsEdges::eleventhSkillOutOfRange);

        Edge.of(3, "no skill comes to need itself, over others too", SkillsEdges::needOverOthers);
        Edge.of(3, "Returns whether it did not yet", SkillsEdges::needAgain);
        Edge.of(3, "Throws IndexOutOfBoundsException if there is no such skill, for either",
                SkillsEdges::needOfNoSkill);
        Edge.of(3, "Throws IllegalArgumentException if a skill came to need itself by this", SkillsEdges::needOfItself);
        Edge.of(3, Edge.FIRST_OF_SEVERAL, SkillsEdges::needOfItselfWithoutSkill);

        Edge.of(4, "At most 4 learners are numbered from 0", SkillsEdges::fourLearners);
        Edge.of(4, "a learner has odds from 0 to 1000, 200 at first", SkillsEdges::oddsAtFirst);
        Edge.of(4, "Throws IllegalStateException if there are 4 learners", SkillsEdges::fifthLearner);

        Edge.of(5, "a teacher can open one for a learner besides", SkillsEdges::openForOneLearner);
        Edge.of(5, "Returns whether it was not open", SkillsEdges::openWhatIsOpen);
        Edge.of(5, "What a teacher opened stays open, whatever the odds become", SkillsEdges::openedStaysOpen);
        Edge.of(5, Edge.NO_LEARNER_OR_SKILL, () -> Twins.noSuchLearnerOrSkill(Tutorlight::open));

        Edge.of(6, "if the odds of each one that it needs are 700 or more", SkillsEdges::openFrom700);
        Edge.of(6, "or if it needs none", SkillsEdges::openWithoutNeeds);
        Edge.of(6, Edge.NO_LEARNER_OR_SKILL, () -> Twins.noSuchLearnerOrSkill(Tutorlight::isOpen));

        Edge.of(7, "odds: the odds, 0 to 1000", SkillsEdges::oddsRange);
        Edge.of(7, "the answers for this skill are not known any more, what is due and the row of right ones stay",
                SkillsEdges::oddsToldAmidARow);
        Edge.of(7, Edge.NO_LEARNER_OR_SKILL, () -> Twins.noSuchLearnerOrSkill((x, i, j) -> x.setOdds(i, j, 500)));
        Edge.of(7, "Throws IllegalArgumentException if they are out of range", SkillsEdges::oddsOutOfRange);
        Edge.of(7, Edge.FIRST_OF_SEVERAL, () -> Twins.noSuchLearnerOrSkill((x, i, j) -> x.setOdds(i, j, 1001)));

        Edge.of(8, "For each skill, a learner has odds from 0 to 1000", SkillsEdges::oddsStayInRange);
        Edge.of(8, "p itself if the sum is 0", SkillsEdges::sumOfZero);
        Edge.of(8, "Then they become greater by (1000 less them) times the gain divided by 1000",
                SkillsEdges::gainAtTheEnds);
        Edge.of(8, "All divisions are rounded down; nothing that is divided is below 0", SkillsEdges::roundedDown);
        Edge.of(8, Edge.NO_LEARNER_OR_SKILL, () -> Twins.noSuchLearnerOrSkill((x, i, j) -> x.answer(i, j, true)));
        Edge.of(8, "Throws IllegalStateException if the skill is not open for the learner", SkillsEdges::answerNotOpen);
        Edge.of(8, Edge.FIRST_OF_SEVERAL, SkillsEdges::answerNotOpenWithoutLearner);

        Edge.of(9, "200 at first", SkillsEdges::oddsAtFirst);
        Edge.of(9, Edge.NO_LEARNER_OR_SKILL, () -> Twins.noSuchLearnerOrSkill(Tutorlight::odds));

        Edge.of(10, "found from all answers since they were told, or from the beginning", SkillsEdges::oddsAnewOfNone);
        Edge.of(10, "An object is used for at most 512 calls", SkillsEdges::oddsAnewOfManyAnswers);
        Edge.of(10, Edge.NO_LEARNER_OR_SKILL, () -> Twins.noSuchLearnerOrSkill(Tutorlight::oddsAnew));

        Edge.of(11, "Returns how many answers of a learner are known for a skill", SkillsEdges::noAnswersAreKnown);
        Edge.of(11, "An object is used for at most 512 calls", SkillsEdges::manyAnswers);
        Edge.of(11, Edge.NO_LEARNER_OR_SKILL, () -> Twins.noSuchLearnerOrSkill(Tutorlight::answers));
    }

    private static void nothingAtFirst() {
        Tutorlight x = new Tutorlight();
        Check.refuses("a skill", NO_INDEX, () -> x.addNeed(0, 0));
        Check.refuses("a skill's mean", NO_INDEX, () -> x.meanOdds(0));
        Check.refuses("a learner", NO_INDEX, () -> x.reviews(0));
        Check.same("the odds", 0L, () -> x.checksum());
        Check.same("the day behind", 1, () -> x.nextDay());
        Check.same("the first skill", 0, () -> x.addSkill(0, 0, 0));
        Check.same("the first learner", 0, () -> x.addLearner());
        Check.same("another object's first skill", 0, () -> new Tutorlight().addSkill(0, 0, 0));
    }

    private static void tenSkills() {
        Tutorlight x = Teachers.with(0, 1);
        for (int i = 0; i < 10; i++) {
            int due = i;
            Check.same("a skill", due, () -> x.addSkill(500, 0, due));
            Check.same("its odds", 200, () -> x.odds(0, due));
            Check.refuses("no skill behind it", NO_INDEX, () -> x.odds(0, due + 1));
        }
    }

    private static void newSkillNeedsNone() {
        Tutorlight x = Teachers.with(9, 1);
        for (int i = 0; i < 9; i++) {
            x.setOdds(0, i, 0);
        }
        x.addSkill(0, 0, 0);
        Check.same("the tenth is open, though no odds are 700", true, () -> x.isOpen(0, 9));
        Check.same("the first needs it as the first to do so", true, () -> x.addNeed(9, 0));
    }

    /** The odds behind one answer, of a learner who has 200 at first. */
    private static int oddsBehind(boolean isRight, int guess, int slip, int gain) {
        Tutorlight x = Teachers.with(0, 1);
        x.addSkill(guess, slip, gain);
        return x.answer(0, 0, isRight);
    }

    private static void guessRange() {
        // 200 * 1000 * 1000 / (200 * 1000 + 800 * guess)
        Check.same("0", 1000, () -> oddsBehind(true, 0, 0, 0));
        Check.same("1", 996, () -> oddsBehind(true, 1, 0, 0));
        Check.same("500", 333, () -> oddsBehind(true, 500, 0, 0));
        Twins.refuse("-1", BAD, Teachers::busy, x -> x.addSkill(-1, 0, 0));
        Twins.refuse("501", BAD, Teachers::busy, x -> x.addSkill(501, 0, 0));
    }

    private static void slipRange() {
        // 200 * slip * 1000 / (200 * slip + 800 * 1000)
        Check.same("0", 0, () -> oddsBehind(false, 0, 0, 0));
        Check.same("4", 0, () -> oddsBehind(false, 0, 4, 0));
        Check.same("5", 1, () -> oddsBehind(false, 0, 5, 0));
        Check.same("500", 111, () -> oddsBehind(false, 0, 500, 0));
        Twins.refuse("-1", BAD, Teachers::busy, x -> x.addSkill(0, -1, 0));
        Twins.refuse("501", BAD, Teachers::busy, x -> x.addSkill(0, 501, 0));
    }

    private static void gainRange() {
        // The odds are 0 before the gain.
        Check.same("0", 0, () -> oddsBehind(false, 0, 0, 0));
        Check.same("1", 1, () -> oddsBehind(false, 0, 0, 1));
        Check.same("500", 500, () -> oddsBehind(false, 0, 0, 500));
        Twins.refuse("-1", BAD, Teachers::busy, x -> x.addSkill(0, 0, -1));
        Twins.refuse("501", BAD, Teachers::busy, x -> x.addSkill(0, 0, 501));
    }

    private static void anyOfThreeOutOfRange() {
        for (int wrong : new int[] {-1, 501, Integer.MIN_VALUE, Integer.MAX_VALUE}) {
            Twins.refuse("guess " + wrong, BAD, Tutorlight::new, x -> x.addSkill(wrong, 0, 500));
            Twins.refuse("slip " + wrong, BAD, Tutorlight::new, x -> x.addSkill(500, wrong, 0));
            Twins.refuse("gain " + wrong, BAD, Tutorlight::new, x -> x.addSkill(0, 500, wrong));
            Twins.refuse("all " + wrong, BAD, Teachers::busy, x -> x.addSkill(wrong, wrong, wrong));
        }
    }

    private static void eleventhSkill() {
        Twins.refuse("the eleventh", STATE, Teachers::full, x -> x.addSkill(0, 0, 0));
        Twins.refuse("the eleventh of no learner", STATE, () -> Teachers.with(10, 0), x -> x.addSkill(500, 500, 500));
        Check.same("the tenth", 9, () -> Teachers.with(9, 4).addSkill(500, 500, 500));
    }

    private static void eleventhSkillOutOfRange() {
        Twins.refuse("guess", BAD, Teachers::full, x -> x.addSkill(-1, 0, 0));
        Twins.refuse("slip", BAD, Teachers::full, x -> x.addSkill(0, 501, 0));
        Twins.refuse("gain", BAD, Teachers::full, x -> x.addSkill(0, 0, 501));
    }

    /** Ten skills, of which each needs the next one. */
    private static Tutorlight chain() {
        Tutorlight x = Teachers.with(10, 1);
        for (int i = 8; i >= 0; i--) {
            x.addNeed(i, i + 1);
        }
        return x;
    }

    private static void needOverOthers() {
        for (int i = 0; i < 10; i++) {
            for (int j = 0; j < i; j++) {
                int skill = i;
                int needed = j;
                Check.refuses(skill + " needs " + needed + " in a chain", BAD, () -> chain().addNeed(skill, needed));
            }
        }
        Twins.refuse("over nine", BAD, SkillsEdges::chain, x -> x.addNeed(9, 0));
        Twins.refuse("over one", BAD, SkillsEdges::chain, x -> x.addNeed(1, 0));
        Check.same("two ways to the same skill", true, () -> chain().addNeed(0, 9));
        Tutorlight fork = Teachers.with(4, 1);
        fork.addNeed(0, 1);
        fork.addNeed(0, 2);
        fork.addNeed(2, 3);
        Check.refuses("over the second of two", BAD, () -> fork.addNeed(3, 0));
        Check.same("beside it", true, () -> fork.addNeed(3, 1));
        Check.same("two that need the same", true, () -> fork.addNeed(2, 1));
    }

    private static void needAgain() {
        Tutorlight x = Teachers.with(10, 1);
        Check.same("the first time", true, () -> x.addNeed(0, 9));
        Check.same("the second time", false, () -> x.addNeed(0, 9));
        Check.same("another one", true, () -> x.addNeed(0, 8));
        Check.same("both", false, () -> x.addNeed(0, 9));
        Check.same("of another skill", true, () -> x.addNeed(1, 9));
        Check.same("over others alone", true, () -> chain().addNeed(0, 2));
        Twins.changeNothing("the second time", Teachers::busy, y -> y.addNeed(3, 0));
    }

    private static void needOfNoSkill() {
        for (int wrong : new int[] {-1, 5, Integer.MIN_VALUE, Integer.MAX_VALUE}) {
            Twins.refuse("skill " + wrong, NO_INDEX, Teachers::busy, x -> x.addNeed(wrong, 0));
            Twins.refuse("needed " + wrong, NO_INDEX, Teachers::busy, x -> x.addNeed(0, wrong));
        }
        Twins.refuse("skill 10 of 10", NO_INDEX, Teachers::full, x -> x.addNeed(10, 0));
        Twins.refuse("needed 10 of 10", NO_INDEX, Teachers::full, x -> x.addNeed(0, 10));
        Twins.refuse("no skills", NO_INDEX, Tutorlight::new, x -> x.addNeed(0, 1));
        Twins.refuse("one skill", NO_INDEX, () -> Teachers.with(1, 1), x -> x.addNeed(0, 1));
    }

    private static void needOfItself() {
        Twins.refuse("the first", BAD, Teachers::full, x -> x.addNeed(0, 0));
        Twins.refuse("the last", BAD, Teachers::full, x -> x.addNeed(9, 9));
        Twins.refuse("one that needs another", BAD, Teachers::busy, x -> x.addNeed(3, 3));
        Twins.refuse("the one that is needed", BAD, Teachers::busy, x -> x.addNeed(0, 3));
        Twins.refuse("over another", BAD, Teachers::busy, x -> x.addNeed(0, 4));
    }

    private static void needOfItselfWithoutSkill() {
        for (int wrong : new int[] {-1, 5, 10}) {
            Twins.refuse("itself, " + wrong, NO_INDEX, Teachers::busy, x -> x.addNeed(wrong, wrong));
        }
    }

    private static void fourLearners() {
        Tutorlight x = Teachers.with(1, 0);
        for (int i = 0; i < 4; i++) {
            int due = i;
            Check.same("a learner", due, () -> x.addLearner());
            Check.same("without reviews", 0, () -> x.reviews(due));
            Check.refuses("no learner behind it", NO_INDEX, () -> x.reviews(due + 1));
        }
    }

    private static void oddsAtFirst() {
        Tutorlight x = Teachers.with(5, 2);
        for (int i = 0; i < 5; i++) {
            x.addSkill(500, 0, 500);
        }
        x.answer(0, 9, true);
        x.addLearner();
        x.addLearner();
        for (int i = 0; i < 39; i++) {
            int learner = i < 9 ? 0 : (i + 1) / 10;
            int skill = i < 9 ? i : (i + 1) % 10;
            Check.same("learner " + learner + ", skill " + skill, 200, () -> x.odds(learner, skill));
            Check.same("anew, learner " + learner + ", skill " + skill, 200, () -> x.oddsAnew(learner, skill));
        }
    }

    private static void fifthLearner() {
        Twins.refuse("the fifth", STATE, Teachers::full, x -> x.addLearner());
        Twins.refuse("the fifth without skills", STATE, () -> Teachers.with(0, 4), x -> x.addLearner());
        Check.same("the fourth", 3, () -> Teachers.with(10, 3).addLearner());
    }

    private static void openForOneLearner() {
        Tutorlight x = Teachers.with(10, 4);
        x.addNeed(9, 0);
        x.addNeed(8, 0);
        x.open(3, 9);
        Check.same("for the last learner, the last skill", true, () -> x.isOpen(3, 9));
        Check.same("not for another learner", false, () -> x.isOpen(2, 9));
        Check.same("not another skill", false, () -> x.isOpen(3, 8));
    }

    private static void openWhatIsOpen() {
        Tutorlight x = Teachers.with(3, 1);
        Check.same("it needs none", false, () -> x.open(0, 0));
        x.addNeed(1, 0);
        x.addNeed(2, 0);
        x.setOdds(0, 0, 699);
        Check.same("just not open", true, () -> x.open(0, 1));
        Check.same("open by the teacher", false, () -> x.open(0, 1));
        x.setOdds(0, 0, 700);
        Check.same("just open by the odds", false, () -> x.open(0, 2));
    }

    private static void openedStaysOpen() {
        Tutorlight x = Teachers.with(4, 1);
        x.addNeed(1, 0);
        x.addNeed(2, 0);
        x.open(0, 1);
        x.setOdds(0, 0, 1000);
        x.open(0, 2);
        x.open(0, 3);
        x.setOdds(0, 0, 0);
        x.setOdds(0, 1, 0);
        Check.same("opened when it was not open", true, () -> x.isOpen(0, 1));
        Check.same("opened when it was open by the odds", true, () -> x.isOpen(0, 2));
        x.addNeed(3, 0);
        Check.same("opened when it needed none", true, () -> x.isOpen(0, 3));
        Check.same("an answer is noted", 1, () -> answersBehindOne(x, 1));
    }

    private static int answersBehindOne(Tutorlight x, int skill) {
        x.answer(0, skill, false);
        return x.answers(0, skill);
    }

    private static void openFrom700() {
        Tutorlight x = Teachers.with(10, 2);
        for (int i = 0; i < 9; i++) {
            x.addNeed(9, i);
            x.setOdds(1, i, 700);
        }
        Check.same("each 700", true, () -> x.isOpen(1, 9));
        Check.same("of another learner", false, () -> x.isOpen(0, 9));
        for (int i = 0; i < 9; i++) {
            x.setOdds(1, i, 699);
            Check.same("skill " + i + " 699", false, () -> x.isOpen(1, 9));
            x.setOdds(1, i, 700);
        }
        x.setOdds(1, 9, 0);
        Check.same("its own odds do not count", true, () -> x.isOpen(1, 9));
        Tutorlight y = chain();
        y.setOdds(0, 1, 700);
        Check.same("what the needed one needs does not count", true, () -> y.isOpen(0, 0));
        Check.same("the needed one itself is not open", false, () -> y.isOpen(0, 1));
    }

    private static void openWithoutNeeds() {
        Tutorlight x = Teachers.with(2, 1);
        x.setOdds(0, 0, 0);
        x.setOdds(0, 1, 0);
        Check.same("needs none", true, () -> x.isOpen(0, 0));
        x.addNeed(1, 0);
        Check.same("is needed, needs none", true, () -> x.isOpen(0, 0));
        Check.same("needs one", false, () -> x.isOpen(0, 1));
    }

    private static void oddsRange() {
        for (int odds : new int[] {0, 1, 999, 1000}) {
            Tutorlight x = Teachers.with(1, 1);
            Check.same("the odds before", 200, () -> x.setOdds(0, 0, odds));
            Check.same("the odds then", odds, () -> x.odds(0, 0));
            Check.same("the odds anew", odds, () -> x.oddsAnew(0, 0));
            Check.same("the odds before", odds, () -> x.setOdds(0, 0, 500));
        }
        Twins.refuse("-1", BAD, Teachers::busy, x -> x.setOdds(0, 0, -1));
        Twins.refuse("1001", BAD, Teachers::busy, x -> x.setOdds(0, 0, 1001));
    }

    private static void oddsToldAmidARow() {
        Tutorlight x = Teachers.with(2, 2);
        for (int i = 0; i < 5; i++) {
            x.answer(0, 0, true);
        }
        x.answer(0, 1, true);
        x.answer(1, 0, true);
        x.setOdds(0, 0, 0);
        Check.same("answers", 0, () -> x.answers(0, 0));
        Check.same("answers of another skill", 1, () -> x.answers(0, 1));
        Check.same("answers of another learner", 1, () -> x.answers(1, 0));
        Check.same("what is due", 16, () -> x.due(0, 0));
        x.nextDay();
        x.answer(0, 0, true);
        Check.same("due behind the sixth right one", 17, () -> x.due(0, 0));
        Check.same("the answers that are known", 1, () -> x.answers(0, 0));
        x.answer(0, 0, false);
        x.setOdds(0, 0, 1000);
        x.answer(0, 0, true);
        Check.same("a row that began anew stays anew", 2, () -> x.due(0, 0));
    }

    private static void oddsOutOfRange() {
        for (int wrong : new int[] {-1, 1001, Integer.MIN_VALUE, Integer.MAX_VALUE}) {
            Twins.refuse("odds " + wrong, BAD, Teachers::busy, x -> x.setOdds(0, 0, wrong));
            Twins.refuse("of the last, odds " + wrong, BAD, Teachers::full, x -> x.setOdds(3, 9, wrong));
        }
    }

    private static int formula(int odds, boolean isRight, int guess, int slip, int gain) {
        long known = odds * (isRight ? 1000L - slip : slip);
        long unknown = (1000 - odds) * (isRight ? guess : 1000L - guess);
        long judged = known + unknown == 0 ? odds : known * 1000 / (known + unknown);
        return (int) (judged + (1000 - judged) * gain / 1000);
    }

    private static void oddsStayInRange() {
        int[] edges = {0, 1, 499, 500};
        for (int i = 0; i < 64; i++) {
            int guess = edges[i / 16];
            int slip = edges[i / 4 % 4];
            int gain = edges[i % 4];
            Tutorlight x = Teachers.with(0, 1);
            x.addSkill(guess, slip, gain);
            for (int odds : new int[] {0, 1, 2, 500, 699, 998, 999, 1000}) {
                for (boolean isRight : new boolean[] {false, true}) {
                    x.setOdds(0, 0, odds);
                    int due = formula(odds, isRight, guess, slip, gain);
                    String what = odds + (isRight ? " right" : " wrong") + " with " + guess + ", " + slip + ", " + gain;
                    Check.same(what, due, () -> x.answer(0, 0, isRight));
                    Check.same(what + " is in range", true, () -> x.odds(0, 0) >= 0 && x.odds(0, 0) <= 1000);
                }
            }
        }
    }

    private static void sumOfZero() {
        Tutorlight x = Teachers.with(0, 1);
        x.addSkill(0, 0, 0);
        x.addSkill(0, 500, 500);
        x.addSkill(500, 0, 500);
        x.setOdds(0, 0, 0);
        Check.same("right, odds 0, guess 0", 0, () -> x.answer(0, 0, true));
        Check.same("the same anew", 0, () -> x.oddsAnew(0, 0));
        x.setOdds(0, 0, 1000);
        Check.same("wrong, odds 1000, slip 0", 1000, () -> x.answer(0, 0, false));
        Check.same("the same anew", 1000, () -> x.oddsAnew(0, 0));
        x.setOdds(0, 1, 0);
        Check.same("right, odds 0, guess 0, then the gain", 500, () -> x.answer(0, 1, true));
        x.setOdds(0, 2, 1000);
        Check.same("wrong, odds 1000, slip 0, no gain left", 1000, () -> x.answer(0, 2, false));
        x.setOdds(0, 0, 1);
        Check.same("right, odds 1, guess 0: the sum is not 0", 1000, () -> x.answer(0, 0, true));
        x.setOdds(0, 0, 999);
        Check.same("wrong, odds 999, slip 0: the sum is not 0", 0, () -> x.answer(0, 0, false));
        x.setOdds(0, 0, 0);
        Check.same("wrong, odds 0: the sum is not 0", 0, () -> x.answer(0, 0, false));
    }

    private static void gainAtTheEnds() {
        // A guess and a slip of 500 tell nothing: the gain alone moves the odds.
        int[] before = {0, 1, 2, 998, 999, 1000};
        int[] behind = {500, 500, 501, 999, 999, 1000};
        for (int i = 0; i < before.length; i++) {
            Tutorlight x = Teachers.with(0, 1);
            x.addSkill(500, 500, 500);
            x.setOdds(0, 0, before[i]);
            int due = behind[i];
            Check.same("odds of " + before[i], due, () -> x.answer(0, 0, true));
            x.setOdds(0, 0, before[i]);
            Check.same("odds of " + before[i] + ", wrong", due, () -> x.answer(0, 0, false));
        }
    }

    private static void roundedDown() {
        // 180000000 / 340000 is 529.4 and 471 * 150 / 1000 is 70.65
        Check.same("right", 599, () -> oddsBehind(true, 200, 100, 150));
        // 20000000 / 660000 is 30.3 and 970 * 150 / 1000 is 145.5
        Check.same("wrong", 175, () -> oddsBehind(false, 200, 100, 150));
        // 100000000 / 900000 is 111.1, and 889 * 499 / 1000 is 443.6
        Check.same("wrong with a great slip", 554, () -> oddsBehind(false, 0, 500, 499));
        // 199800000 / 200600 is 996.01, and 4 * 249 / 1000 is 0.996
        Check.same("a gain of nearly 1", 996, () -> oddsBehind(true, 1, 1, 249));
        Check.same("a gain of just 1", 997, () -> oddsBehind(true, 1, 1, 250));
    }

    private static void answerNotOpen() {
        Twins.refuse("right", STATE, Teachers::busy, x -> x.answer(0, 3, true));
        Twins.refuse("wrong", STATE, Teachers::busy, x -> x.answer(0, 3, false));
        Twins.refuse("of the other learner", STATE, Teachers::busy, x -> x.answer(1, 4, true));
        Check.same("open at 700", 1, () -> answersAt(700));
        Check.refuses("not open at 699", STATE, () -> answersAt(699));
    }

    private static int answersAt(int oddsOfNeeded) {
        Tutorlight x = Teachers.with(2, 1);
        x.addNeed(1, 0);
        x.setOdds(0, 0, oddsOfNeeded);
        return answersBehindOne(x, 1);
    }

    private static void answerNotOpenWithoutLearner() {
        for (int wrong : new int[] {-1, 2, 4}) {
            Twins.refuse("learner " + wrong, NO_INDEX, Teachers::busy, x -> x.answer(wrong, 3, true));
        }
    }

    private static void oddsAnewOfNone() {
        Tutorlight x = Teachers.with(1, 2);
        Check.same("from the beginning, without answers", 200, () -> x.oddsAnew(1, 0));
        x.answer(0, 0, true);
        x.answer(0, 0, false);
        // 529 + 471 * 100 / 1000 is 576; 57600000 / 396800 is 145, and 145 + 855 * 100 / 1000 is 230
        Check.same("from the beginning, with two answers", 230, () -> x.oddsAnew(0, 0));
        x.setOdds(0, 0, 0);
        Check.same("since they were told, without answers", 0, () -> x.oddsAnew(0, 0));
        x.answer(0, 0, false);
        Check.same("since they were told, with one answer", 100, () -> x.oddsAnew(0, 0));
        x.setOdds(0, 0, 200);
        Check.same("since they were told again", 200, () -> x.oddsAnew(0, 0));
    }

    private static void oddsAnewOfManyAnswers() {
        Tutorlight x = Teachers.with(0, 1);
        x.addSkill(300, 200, 100);
        int due = 200;
        for (int i = 0; i < 509; i++) {
            boolean isRight = i % 7 % 2 == 0;
            due = formula(due, isRight, 300, 200, 100);
            x.answer(0, 0, isRight);
        }
        int last = due;
        Check.same("the 512th call", last, () -> x.oddsAnew(0, 0));
    }

    private static void noAnswersAreKnown() {
        Tutorlight x = Teachers.with(1, 1);
        Check.same("none was given", 0, () -> x.answers(0, 0));
        x.setOdds(0, 0, 500);
        Check.same("odds were told", 0, () -> x.answers(0, 0));
        Check.same("one was given", 1, () -> answersBehindOne(x, 0));
        x.setOdds(0, 0, 500);
        Check.same("odds were told behind it", 0, () -> x.answers(0, 0));
    }

    private static void manyAnswers() {
        Tutorlight x = Teachers.with(1, 1);
        for (int i = 0; i < 509; i++) {
            x.answer(0, 0, i % 2 == 0);
        }
        Check.same("the 512th call", 509, () -> x.answers(0, 0));
    }
}
