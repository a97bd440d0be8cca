import java.util.List;

/** What the tests share: each wrong answer is printed, and a test with one ends with exit code 1. */
final class Checks {
    interface Call {
        void run();
    }

    static final Class<IndexOutOfBoundsException> OUTSIDE = IndexOutOfBoundsException.class;
    static final Class<IllegalArgumentException> ILLEGAL = IllegalArgumentException.class;
    static final Class<UnsupportedOperationException> NO_ROOM = UnsupportedOperationException.class;

    private static int sentences = 0;
    private static int made = 0;
    private static int wrong = 0;
    private static String words = "";

    private Checks() {
    }

    /** A test of its own for one sentence of the document; a sentence without a check proves nothing. */
    static void sentence(String sentence, Call test) {
        words = sentence;
        sentences++;
        int before = made;
        try {
            test.run();
        } catch (RuntimeException e) {
            wrong("threw " + e);
        }
        if (made == before) {
            wrong("checked nothing");
        }
        words = "";
    }

    private static void wrong(String what) {
        wrong++;
        System.out.println("[" + words + "] " + what);
    }

    static void same(String what, long got, long due) {
        made++;
        if (got != due) {
            wrong(what + " answered " + got + ", due is " + due);
        }
    }

    static void same(String what, boolean got, boolean due) {
        same(what, got ? 1L : 0L, due ? 1L : 0L);
    }

    static void same(String what, List<String> got, List<String> due) {
        made++;
        if (!got.equals(due)) {
            wrong(what + " answered " + got + ", due is " + due);
        }
    }

    /** The exact class is compared: one below it would be thrown by the machine. */
    static void thrown(String what, Class<? extends RuntimeException> due, Call call) {
        Class<?> got = thrownBy(call);
        made++;
        if (got != due) {
            wrong(what + " threw " + got + ", due is " + due);
        }
    }

    static Class<?> thrownBy(Call call) {
        try {
            call.run();
            return null;
        } catch (RuntimeException e) {
            return e.getClass();
        }
    }

    /** All that can be seen after the calls is what the slow Model has after them. */
    static void state(String what, State.Calls calls) {
        sameState(what, State.after(calls), State.dueAfter(calls));
    }

    /** After the setup, the call throws what is due, and all that can be seen is as before. */
    static void refused(String what, Class<? extends RuntimeException> due, State.Calls setup, State.Calls call) {
        Wheel x = new Wheel();
        setup.on(x);
        thrown(what, due, () -> call.on(x));
        State after = State.after(y -> {
            setup.on(y);
            thrownBy(() -> call.on(y));
        });
        sameState(what + " is refused and changes nothing:", after, State.dueAfter(setup));
    }

    private static void sameState(String what, State got, State due) {
        made++;
        String difference = got.difference(due);
        if (difference != null) {
            wrong(what + " " + difference);
        }
    }

    static void end() {
        System.out.println(sentences + " sentences, " + made + " checks, " + wrong + " wrong");
        if (wrong != 0) {
            System.exit(1);
        }
    }
}
