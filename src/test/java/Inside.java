import java.lang.reflect.Array;
import java.lang.reflect.Field;

/** Reaches inside a teacher, to try what no run of calls leads to. */
final class Inside {
    private Inside() {
    }

    static void setOdds(Tutorlight x, int learner, int skill, int odds) throws Exception {
        fieldOf(masteryOf(x, learner, skill), "odds").setInt(masteryOf(x, learner, skill), odds);
    }

    static void setDueDay(Tutorlight x, int learner, int skill, int day) throws Exception {
        fieldOf(masteryOf(x, learner, skill), "dueDay").setInt(masteryOf(x, learner, skill), day);
    }

    static void setEquation(Tutorlight x, int learner, int... numbers) throws Exception {
        Object equation = valueOf(valueOf(elementOf(x, "learners", learner), "exercise"), "equation");
        for (int i = 0; i < 4; i++) {
            fieldOf(equation, "abcd".substring(i, i + 1)).setInt(equation, numbers[i]);
        }
    }

    private static Object masteryOf(Tutorlight x, int learner, int skill) throws Exception {
        return elementOf(elementOf(x, "learners", learner), "masteries", skill);
    }

    private static Object elementOf(Object owner, String name, int index) throws Exception {
        return Array.get(valueOf(owner, name), index);
    }

    private static Object valueOf(Object owner, String name) throws Exception {
        return fieldOf(owner, name).get(owner);
    }

    private static Field fieldOf(Object owner, String name) throws Exception {
        Field field = owner.getClass().getDeclaredField(name);
        field.setAccessible(true);
        return field;
    }
}
