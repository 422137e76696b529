/** Makes teachers to test. */
final class Teachers {
    private Teachers() {
    }

    static Tutorlight with(int skills, int learners) {
        Tutorlight x = new Tutorlight();
        for (int i = 0; i < skills; i++) {
            x.addSkill(200, 100, 100);
        }
        for (int i = 0; i < learners; i++) {
            x.addLearner();
        }
        return x;
    }
}
