/** The paragraph at the end of "Terms": what methods throw, which stands first, and that nothing changes. */
public final class RefusalsTest {
    /** Each kind of refused call after Setups.mixed, with what it throws; all arguments as call takes them. */
    private static final Object[][] OUTSIDE = {
        {"put", -1, 0, 1}, {"put", 6, 0, 1}, {"put", 0, -1, 1}, {"put", 0, 512, 1}, {"put", -1, -1, 1},
        {"put", 6, 512, 1}, {"get", -1, 0, 0}, {"get", 6, 0, 0}, {"get", 5, -1, 0}, {"get", 5, 512, 0},
        {"length", -1, 0, 0}, {"length", 6, 0, 0}, {"turn", -1, 1, 0}, {"turn", 6, 512, 1},
        {"product", -1, 1, 1}, {"product", 6, 1, 1}, {"product", 1, -1, 1}, {"product", 1, 6, 1},
        {"product", 1, 1, -1}, {"product", 1, 1, 6}, {"at", -1, 1, 0}, {"at", 6, 1, 0},
        {"word", -1, 0, 1}, {"word", 6, 0, 1}, {"word", 0, -1, 1}, {"word", 0, 240, 1}, {"word", -1, -1, 1},
        {"word", 6, 240, 1}, {"wordAt", -1, 0, 0}, {"wordAt", 6, 0, 0}, {"wordAt", 5, -1, 0}, {"wordAt", 5, 240, 0},
        {"size", -1, 0, 0}, {"size", 6, 0, 0}, {"multiply", -1, 1, 1}, {"multiply", 6, 1, 1},
        {"multiply", 1, -1, 1}, {"multiply", 1, 6, 1}, {"multiply", 1, 1, -1}, {"multiply", 1, 1, 6},
        {"sum", -1, 1, 1}, {"sum", 6, 1, 1}, {"sum", 1, -1, 1}, {"sum", 1, 6, 1}, {"sum", 1, 1, -1}, {"sum", 1, 1, 6}};
    private static final Object[][] ILLEGAL = {
        {"field", 1, 0, 0}, {"field", 513, 0, 0}, {"field", 257, 0, 0}, {"field", 2147484161L, 0, 0},
        {"power", 2, -1, 0}, {"power", 0, -1, 0}, {"inverse", 0, 0, 0}, {"inverse", 2013265921L, 0, 0},
        {"inverse", -2013265921L, 0, 0}, {"turn", 0, 0, 0}, {"turn", 0, 3, 1}, {"turn", 0, 1024, 0}, {"turn", 0, -1, 1}};
    private static final Object[][] NO_ROOM = {
        {"product", 5, 2, 2}, {"product", 0, 0, 1}, {"product", 1, 1, 0}, {"multiply", 5, 2, 3},
        {"multiply", 1, 1, 0}, {"multiply", 0, 0, 1}, {"sum", 5, 0, 1}, {"sum", 0, 0, 1}, {"sum", 4, 4, 4}};
    /** The row, the coefficient, the natural or the word is wrong, and a number or the room as well. */
    private static final Object[][] SEVERAL = {
        {"turn", -1, 0, 0}, {"turn", 6, 3, 0}, {"turn", 6, 1024, 1}, {"turn", -1, -1, 1},
        {"product", -1, 0, 0}, {"product", 6, 2, 2}, {"product", 0, 0, 6}, {"product", 0, -1, 0},
        {"multiply", -1, 0, 0}, {"multiply", 6, 2, 3}, {"multiply", 0, 0, 6}, {"multiply", 0, -1, 0},
        {"sum", -1, 0, 0}, {"sum", 6, 0, 1}, {"sum", 0, 0, 6}, {"sum", 0, -1, 0}};

    public static void main(String[] args) {
        Checks.sentence("Terms: IndexOutOfBoundsException", () -> each(OUTSIDE, Checks.OUTSIDE));
        Checks.sentence("Terms: IllegalArgumentException", () -> each(ILLEGAL, Checks.ILLEGAL));
        Checks.sentence("Terms: UnsupportedOperationException", () -> each(NO_ROOM, Checks.NO_ROOM));
        Checks.sentence("Terms: the one named first when several would do", () -> each(SEVERAL, Checks.OUTSIDE));
        Checks.sentence("Terms: a call that throws changes nothing", RefusalsTest::allInOneRun);
        Checks.sentence("Terms: later calls answer as if it had not been made", RefusalsTest::laterCalls);
        Checks.end();
    }

    private static long number(Object given) {
        return ((Number) given).longValue();
    }

    private static void make(Machine x, Object[] call) {
        x.call((String) call[0], number(call[1]), number(call[2]), number(call[3]));
    }

    private static void each(Object[][] calls, Class<? extends RuntimeException> due) {
        for (Object[] call : calls) {
            String what = call[0] + "(" + call[1] + ", " + call[2] + ", " + call[3] + ")";
            Checks.refused(what, due, Setups::mixed, x -> make(x, call));
        }
    }

    private static void makeAll(Machine x) {
        for (Object[][] calls : new Object[][][] {OUTSIDE, ILLEGAL, NO_ROOM, SEVERAL}) {
            for (Object[] call : calls) {
                Checks.thrownBy(() -> make(x, call));
            }
        }
    }

    private static void allInOneRun() {
        State before = State.dueAfter(Setups::mixed);
        State after = State.after(x -> {
            Setups.mixed(x);
            makeAll(x);
        });
        String difference = after.difference(before);
        Checks.same("all refused calls change nothing (" + difference + ")", difference == null, true);
    }

    private static void laterCalls() {
        Wheel x = new Wheel();
        Model model = new Model();
        Setups.mixed(x);
        makeAll(x);
        Setups.mixed(model);
        Object[][] later = {{"product", 5, 2, 4}, {"get", 5, 511, 0}, {"at", 5, 3, 0}, {"turn", 5, 512, 1},
            {"get", 5, 1, 0}, {"multiply", 5, 3, 3}, {"wordAt", 5, 238, 0}, {"sum", 5, 4, 2}, {"wordAt", 5, 239, 0},
            {"field", 7681, 0, 0}, {"put", 0, 1, 1}, {"turn", 0, 8, 0}, {"get", 0, 1, 0}, {"wordAt", 5, 120, 0}};
        for (Object[] call : later) {
            String name = (String) call[0];
            long due = model.call(name, number(call[1]), number(call[2]), number(call[3]));
            long got = x.call(name, number(call[1]), number(call[2]), number(call[3]));
            Checks.same(name + "(" + call[1] + ", " + call[2] + ", " + call[3] + ")", got, due);
        }
    }
}
