/** Makes teachers to test. */
final class Teachers {
    /** Of the exercise 2 x - 3 = x - 7; the next one is of 3 x - 3 = x - 11. */
    static final int NUMBER = 147;

    private Teachers() {
    }

    static Tutorlight with(int skills, int learners) {
        Tutorlight x = new Tutorlight();
        for (int i = 0; i < skills; i++) {
            x.addSkill(200, 100, 100);
        }
        for (int i = 0; i < learners; i++) {
            x.addLearner();
        }
        return x;
    }

    static Tutorlight withExercise(int number) {
        Tutorlight x = Teachers.with(2, 2);
        x.make(0, 0, number);
        return x;
    }

    static String equation(Tutorlight x) {
        return x.part(0, 'a') + " " + x.part(0, 'b') + " " + x.part(0, 'c') + " " + x.part(0, 'd');
    }

    /**
     * On the day 1, five skills and two learners: skill 3 is not open for learner 0, skill 4 is not for learner 1.
     * Learner 0 has an exercise of skill 0, with a hint and an explained wrong step; learner 1 has none.
     */
    static Tutorlight busy() {
        Tutorlight x = with(5, 2);
        x.addNeed(3, 0);
        x.addNeed(4, 3);
        x.open(0, 4);
        x.answer(0, 0, true);
        x.answer(0, 0, true);
        x.answer(0, 1, false);
        x.answer(0, 2, true);
        x.answer(1, 1, true);
        x.setOdds(0, 0, 699);
        x.setOdds(1, 0, 700);
        x.nextDay();
        x.make(0, 1, NUMBER);
        x.make(0, 0, NUMBER);
        x.hint(0);
        x.step(0, 4, -3, 0, -11);
        return x;
    }

    /** As many skills and learners as there can be; learner 3 has an exercise, with an explained wrong step. */
    static Tutorlight full() {
        Tutorlight x = with(10, 4);
        x.answer(3, 9, true);
        x.answer(0, 0, false);
        x.make(3, 9, NUMBER);
        x.step(3, 3, -3, 0, -7);
        return x;
    }

    static void goOn(Tutorlight x, int days) {
        for (int i = 0; i < days; i++) {
            x.nextDay();
        }
    }
}
