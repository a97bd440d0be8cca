/** What the tests share: each wrong answer is printed, and a test with one ends with exit code 1. */
final class Checks {
    interface Call {
        void run();
    }

    private static int wrong = 0;
    private static int made = 0;

    private Checks() {
    }

    static void same(String what, long got, long due) {
        made++;
        if (got != due) {
            wrong++;
            System.out.println(what + " answered " + got + ", due is " + due);
        }
    }

    static void same(String what, boolean got, boolean due) {
        same(what, got ? 1L : 0L, due ? 1L : 0L);
    }

    /** The exact class is compared: one below it would be thrown by the machine. */
    static void thrown(String what, Class<? extends RuntimeException> due, Call call) {
        Class<?> got = thrownBy(call);
        made++;
        if (got != due) {
            wrong++;
            System.out.println(what + " threw " + got + ", due is " + due);
        }
    }

    static Class<?> thrownBy(Call call) {
        try {
            call.run();
            return null;
        } catch (RuntimeException e) {
            return e.getClass();
        }
    }

    static void end() {
        System.out.println(made + " checks, " + wrong + " wrong");
        if (wrong != 0) {
            System.exit(1);
        }
    }
}
