import java.lang.reflect.InvocationTargetException;
import java.lang.reflect.Method;
import java.util.ArrayList;
import java.util.Arrays;
import java.util.List;
import java.util.Random;
import java.util.TreeMap;

/** Runs of 512 calls, the same each time, answered by the class and by Model. */
public final class ModelTest {
    private static final int RUNS = 400;
    private static final int CALLS = 512;
    private static final List<Method> FACE = face();

    private final Random random;
    private final Tutorlight x = new Tutorlight();
    private final Model model = new Model();
    private final List<String> told = new ArrayList<>();

    private ModelTest(long seed) {
        random = new Random(seed);
    }

    public static void main(String[] args) throws Exception {
        TreeMap<String, Integer> answers = new TreeMap<>();
        for (int run = 0; run < RUNS; run++) {
            new ModelTest(run).play(answers);
        }
        answers.forEach((answer, count) -> System.out.println("  " + answer + " " + count));
        Check.finish("ModelTest");
    }

    private static List<Method> face() {
        List<Method> all = new ArrayList<>();
        for (Method method : Tutorlight.class.getDeclaredMethods()) {
            if (java.lang.reflect.Modifier.isPublic(method.getModifiers())) {
                all.add(method);
            }
        }
        all.sort((m, n) -> m.getName().compareTo(n.getName()));
        return all;
    }

    private static Method named(String name) {
        return FACE.stream().filter(m -> m.getName().equals(name)).findFirst().orElseThrow();
    }

    private void play(TreeMap<String, Integer> answers) throws Exception {
        for (int call = 0; call < CALLS; call++) {
            Method method = pick();
            Object[] arguments = argumentsOf(method);
            Method same = Model.class.getMethod(method.getName(), method.getParameterTypes());
            Object want = answerOf(same, model, arguments);
            told.add(method.getName() + Arrays.toString(arguments) + " -> " + want);
            Check.same(told.toString(), want, () -> answerOf(method, x, arguments));
            String kind = want instanceof Class<?> thrown ? thrown.getSimpleName() : "answers";
            answers.merge(method.getName() + " " + kind, 1, Integer::sum);
        }
    }

    private Method pick() {
        String[] often = {"answer", "make", "step", "step", "step", "explain", "hint", "nextDay", "setOdds", "addNeed"};
        String[] first = {"addSkill", "addLearner"};
        int kind = random.nextInt(10);
        if (kind < 5) {
            return named(often[random.nextInt(often.length)]);
        }
        if (kind == 5) {
            return named(first[random.nextInt(first.length)]);
        }
        return FACE.get(random.nextInt(FACE.size()));
    }

    private static Object answerOf(Method method, Object object, Object[] arguments) throws Exception {
        try {
            return method.invoke(object, arguments);
        } catch (InvocationTargetException e) {
            return e.getCause().getClass();
        }
    }

    private Object[] argumentsOf(Method method) {
        int learner = seldom(30) ? odd() : random.nextInt(seldom(4) ? 4 : 2);
        int skill = seldom(30) ? odd() : random.nextInt(seldom(4) ? 10 : 4);
        switch (method.getName()) {
            case "addSkill": return new Object[] {thousandths(), thousandths(), thousandths()};
            case "addNeed": return new Object[] {skill, seldom(20) ? odd() : random.nextInt(10)};
            case "answer": return new Object[] {learner, skill, random.nextInt(3) > 0};
            case "setOdds": return new Object[] {learner, skill, seldom(20) ? odd() : random.nextInt(1001)};
            case "reviewAt": return new Object[] {learner, seldom(20) ? odd() : random.nextInt(5)};
            case "make": return new Object[] {learner, skill, number()};
            case "part": return new Object[] {learner, (char) ('a' - 1 + random.nextInt(6))};
            case "step": return stepOf(learner);
            case "meanOdds": return new Object[] {skill};
            default: break;
        }
        Object[] both = {learner, skill};
        return Arrays.copyOf(both, method.getParameterCount());
    }

    private boolean seldom(int times) {
        return random.nextInt(times) == 0;
    }

    private int odd() {
        int[] all = {-1, 4, 10, 1001, 1260, 10000, -10000, Integer.MIN_VALUE, Integer.MAX_VALUE};
        return all[random.nextInt(all.length)];
    }

    private int thousandths() {
        int[] edges = {0, 500, -1, 501};
        return seldom(6) ? edges[random.nextInt(edges.length)] : random.nextInt(501);
    }

    private int number() {
        int[] few = {0, 1, 2, 1258, 1259};
        return seldom(3) ? few[random.nextInt(few.length)] : seldom(20) ? odd() : random.nextInt(1260);
    }

    private Object[] stepOf(int learner) {
        List<Integer> equation = model.equationOf(learner);
        if (equation == null || seldom(20)) {
            return new Object[] {learner, small(), small(), small(), seldom(10) ? odd() : small()};
        }
        List<Integer> next = equation;
        int rules = random.nextInt(5);
        for (int i = 0; i < rules; i++) {
            int rule = random.nextInt(5);
            next = seldom(3) ? Model.byBroken(rule, next) : Model.byRight(rule, next);
        }
        return new Object[] {learner, next.get(0), next.get(1), next.get(2), next.get(3)};
    }

    private int small() {
        return random.nextInt(13) - 6;
    }
}
