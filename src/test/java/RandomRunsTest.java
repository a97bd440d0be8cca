import java.util.Random;

/**
 * Runs of 512 calls with right and wrong arguments, all promises mixed: each answer, and each
 * exception's exact class, is compared with that of the slow Model.
 */
public final class RandomRunsTest {
    private static final long[] FIELDS = {998244353L, 7681L, 12289L, 2130706433L, 2147483137L, 2013265921L,
        12801L, 513L, 2147483647L, 0L, -1L, 7680L, Long.MIN_VALUE, Long.MAX_VALUE};
    private static final long[] NUMBERS = {0, 1, -1, 2, 7681, 998244353L, 2147483136L, 4294967295L, 4294967296L,
        Long.MIN_VALUE, Long.MAX_VALUE};

    private final Random random;
    private final Wheel x = new Wheel();
    private final Model model = new Model();

    private RandomRunsTest(long seed) {
        random = new Random(seed);
    }

    public static void main(String[] args) {
        Checks.sentence("Promises 1 to 16: all mixed, 512 calls an object", RandomRunsTest::runs);
        Checks.end();
    }

    private static void runs() {
        for (int run = 0; run < 300; run++) {
            RandomRunsTest test = new RandomRunsTest(run);
            for (int call = 0; call < 512; call++) {
                test.oneCall("run " + run + ", call " + call + ": ");
            }
        }
    }

    private int index() {
        if (random.nextInt(60) == 0) {
            return new int[] {-1, 6, Integer.MIN_VALUE, Integer.MAX_VALUE}[random.nextInt(4)];
        }
        return random.nextInt(6);
    }

    private int place(int bound) {
        switch (random.nextInt(40)) {
            case 0: return -1;
            case 1: return bound;
            case 2: return bound - 1;
            case 3: return 0;
            default: return random.nextInt(random.nextInt(bound) + 1);
        }
    }

    private long number() {
        switch (random.nextInt(4)) {
            case 0: return NUMBERS[random.nextInt(NUMBERS.length)];
            case 1: return random.nextInt(10);
            default: return random.nextLong();
        }
    }

    private int turnBy() {
        return random.nextInt(12) == 0 ? random.nextInt(1100) - 30 : 1 << random.nextInt(10);
    }

    private void oneCall(String where) {
        switch (random.nextInt(24)) {
            case 0: compare(where, "field", random.nextInt(12) == 0 ? FIELDS[random.nextInt(FIELDS.length)] : 1, 0, 0); break;
            case 1: compare(where, "times", number(), number(), 0); break;
            case 2: compare(where, "power", number(), number(), 0); break;
            case 3: compare(where, "inverse", number(), 0, 0); break;
            case 4: case 5: case 6: compare(where, "put", index(), place(512), number()); break;
            case 7: case 8: compare(where, "get", index(), place(512), 0); break;
            case 9: compare(where, "length", index(), 0, 0); break;
            case 10: compare(where, "turn", index(), turnBy(), random.nextInt(2)); break;
            case 11: case 12: compare(where, "product", index(), index(), index()); break;
            case 13: case 14: compare(where, "at", index(), number(), 0); break;
            case 15: case 16: case 17: compare(where, "word", index(), place(240), number()); break;
            case 18: case 19: compare(where, "wordAt", index(), place(240), 0); break;
            case 20: compare(where, "size", index(), 0, 0); break;
            case 21: case 22: compare(where, "multiply", index(), index(), index()); break;
            default: compare(where, "sum", index(), index(), index()); break;
        }
    }

    private void compare(String where, String name, long a, long b, long c) {
        String what = where + name + "(" + a + ", " + b + ", " + c + ")";
        long[] due = new long[1];
        long[] got = new long[1];
        Class<?> dueThrown = Checks.thrownBy(() -> due[0] = model.call(name, a, b, c));
        Class<?> gotThrown = Checks.thrownBy(() -> got[0] = x.call(name, a, b, c));
        Checks.same(what + " threw " + gotThrown + " (due " + dueThrown + "), same", gotThrown == dueThrown, true);
        Checks.same(what, got[0], due[0]);
    }
}
