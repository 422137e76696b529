/** Counts and prints what is not as it is due. */
final class Check {
    interface Call {
        Object run() throws Exception;
    }

    private static String about = "";
    private static int count = 0;
    private static int wrong = 0;

    private Check() {
    }

    /** Tells what the checks that come are about. */
    static void about(String what) {
        about = what;
    }

    static int count() {
        return count;
    }

    /** What a call returns, or the class of the exception that it throws. */
    static Object answerOf(Call call) {
        try {
            return call.run();
        } catch (Exception e) {
            return e.getClass();
        }
    }

    static void same(String what, Object want, Call call) {
        Object got = answerOf(call);
        count++;
        if (!want.equals(got)) {
            wrong++;
            System.out.println(about + what + " answered " + got + ", due is " + want);
        }
    }

    static void refuses(String what, Class<? extends Exception> want, Call call) {
        same(what, want, call);
    }

    static void finish(String test) {
        System.out.println(test + ": " + count + " checks, " + wrong + " wrong");
        if (wrong != 0 || count == 0) {
            System.exit(1);
        }
    }
}
