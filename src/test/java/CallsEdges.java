import java.lang.reflect.InvocationTargetException;
import java.lang.reflect.Method;
import java.lang.reflect.Modifier;
import java.util.ArrayList;
import java.util.Arrays;
import java.util.List;

/** The boundary cases that hold for all calls: refused ones, and as many calls as an object is used for. */
final class CallsEdges {
    private static final int CALLS = 512;

    private CallsEdges() {
    }

    static void run() {
        Edge.of(Edge.ALL, "A method that throws an exception changes nothing", CallsEdges::allRefused);
        Edge.of(Edge.ALL, "An object is used for at most 512 calls after it has been made", CallsEdges::the512thCall);
        Edge.of(Edge.ALL, "what later calls answer is free", CallsEdges::laterCalls);
    }

    private static List<Method> face() {
        List<Method> all = new ArrayList<>();
        for (Method method : Tutorlight.class.getDeclaredMethods()) {
            if (Modifier.isPublic(method.getModifiers())) {
                all.add(method);
            }
        }
        all.sort((m, n) -> m.getName().compareTo(n.getName()));
        return all;
    }

    private static Object[] argumentsOf(Method method, int number, boolean isRight) {
        Object[] all = new Object[method.getParameterCount()];
        for (int i = 0; i < all.length; i++) {
            Class<?> type = method.getParameterTypes()[i];
            all[i] = type == boolean.class ? isRight : type == char.class ? (Object) (char) number : (Object) number;
        }
        return all;
    }

    /** What a call throws, or nothing: each exception must be of a class that the document names for it. */
    private static Class<?> thrownBy(Method method, Tutorlight x, Object... arguments) {
        try {
            method.invoke(x, arguments);
            return null;
        } catch (InvocationTargetException e) {
            Class<?> thrown = e.getCause().getClass();
            String call = method.getName() + Arrays.toString(arguments) + " throws " + thrown.getSimpleName();
            Check.same(call, true, () -> List.of(method.getExceptionTypes()).contains(thrown));
            return thrown;
        } catch (IllegalAccessException e) {
            throw new IllegalStateException(e);
        }
    }

    /** Each call that has arguments, with numbers that it must refuse. */
    private static boolean refuseAll(Tutorlight x, int number) {
        for (Method method : face()) {
            if (method.getParameterCount() > 0) {
                Class<?> thrown = thrownBy(method, x, argumentsOf(method, number, true));
                Check.same(method.getName() + " of " + number + " is refused", true, () -> thrown != null);
            }
        }
        return true;
    }

    private static void allRefused() {
        for (int number : new int[] {-1, 10000, Integer.MIN_VALUE, Integer.MAX_VALUE}) {
            Twins.changeNothing("all calls with " + number, Teachers::busy, x -> refuseAll(x, number));
            Twins.changeNothing("all calls with " + number, Teachers::full, x -> refuseAll(x, number));
            Twins.changeNothing("all calls with " + number, Tutorlight::new, x -> refuseAll(x, number));
        }
    }

    private static void the512thCall() {
        Tutorlight x = Teachers.with(3, 2);
        int rounds = (CALLS - 5 - 3) / 6;
        for (int i = 0; i < rounds; i++) {
            int day = i + 1;
            x.answer(1, 2, true);
            x.make(1, 0, i);
            x.step(1, 0, 0, 0, 0);
            x.hint(1);
            Check.same("the day", day, () -> x.nextDay());
            Check.same("on the day " + day, true, () -> x.isSound());
        }
        Check.same("the 510th call", rounds, () -> x.answers(1, 2));
        Check.same("the 511th call", 11, () -> x.faults(1));
        Check.same("the 512th call", rounds - 1 + 16, () -> x.due(1, 2));
    }

    /** An object that has been asked too often may answer what it likes, but its calls end, and throw as written. */
    private static void laterCalls() {
        Tutorlight x = Teachers.full();
        for (int i = 0; i < 4 * CALLS; i++) {
            x.answer(3, 9, i % 3 > 0);
            x.hint(3);
        }
        for (Method method : face()) {
            for (int number : new int[] {0, 3, 9, 'a', -1, Integer.MAX_VALUE}) {
                for (int i = 0; i < CALLS; i++) {
                    thrownBy(method, x, argumentsOf(method, number, i % 2 == 0));
                }
            }
        }
        Check.same("all calls ended", true, () -> true);
    }
}
