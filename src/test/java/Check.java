/** Counts and prints what is not as it is due. */
final class Check {
    interface Call {
        Object run() throws Exception;
    }

    private static int count = 0;
    private static int wrong = 0;

    private Check() {
    }

    static void same(String what, Object want, Call call) {
        Object got;
        try {
            got = call.run();
        } catch (Exception e) {
            got = e.getClass();
        }
        count++;
        if (!want.equals(got)) {
            wrong++;
            System.out.println(what + " answered " + got + ", due is " + want);
        }
    }

    static void refuses(String what, Class<? extends Exception> want, Call call) {
        same(what, want, call);
    }

    static void finish(String test) {
        System.out.println(test + ": " + count + " checks, " + wrong + " wrong");
        if (wrong != 0 || count == 0) {
            System.exit(1);
        }
    }
}
