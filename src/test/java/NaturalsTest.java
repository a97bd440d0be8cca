import java.math.BigInteger;

/** Promises 12 to 16: word, wordAt, size, multiply, sum. */
public final class NaturalsTest {
    private static final Class<IndexOutOfBoundsException> OUTSIDE = IndexOutOfBoundsException.class;
    private static final Class<UnsupportedOperationException> NO_ROOM = UnsupportedOperationException.class;
    private static final long FULL = 4294967295L;
    private static final int[] NO_INDEX = {-1, 6, 7, 240, Integer.MIN_VALUE, Integer.MAX_VALUE};
    private static final int[] NO_WORD = {-1, 240, 241, 511, Integer.MIN_VALUE, Integer.MAX_VALUE};

    public static void main(String[] args) {
        wordTellsWhetherAnother();
        wrongIndexes();
        sizeFollowsWords();
        multiplyAnyNaturals();
        multiplyRefuses();
        multiplyByNothing();
        sumOfAnyNaturals();
        sumRefuses();
        Checks.end();
    }

    private static void wordTellsWhetherAnother() {
        WheelProducts x = new WheelProducts();
        Checks.same("12: 0 on 0", x.word(0, 0, 0), false);
        Checks.same("12: above 32 bits on 0", x.word(0, 0, 1L << 32), false);
        Checks.same("12: -1 on 0", x.word(0, 0, -1), true);
        Checks.same("13: -1", x.wordAt(0, 0), FULL);
        Checks.same("12: all bits on all", x.word(0, 0, FULL), false);
        Checks.same("12: one less", x.word(0, 0, FULL - 1), true);
        Checks.same("12: 7 with bits above", x.word(5, 239, (5L << 32) + 7), true);
        Checks.same("13: 7 with bits above", x.wordAt(5, 239), 7);
        Checks.same("12: 7 on it", x.word(5, 239, 7), false);
        Checks.same("12: least long on 7", x.word(5, 239, Long.MIN_VALUE), true);
        Checks.same("13: least long", x.wordAt(5, 239), 0);
        Checks.same("12: greatest long", x.word(5, 239, Long.MAX_VALUE), true);
        Checks.same("13: greatest long", x.wordAt(5, 239), FULL);
        Checks.same("12: highest bit", x.word(5, 239, 1L << 31), true);
        Checks.same("13: highest bit", x.wordAt(5, 239), 2147483648L);
        Checks.same("13: another natural", x.wordAt(4, 239), 0);
        Checks.same("13: rows are others", x.get(0, 0), 0);
    }

    private static void wrongIndexes() {
        WheelProducts x = new WheelProducts();
        x.word(0, 0, 3);
        for (int natural : NO_INDEX) {
            Checks.thrown("12: word of " + natural, OUTSIDE, () -> x.word(natural, 0, 1));
            Checks.thrown("13: wordAt of " + natural, OUTSIDE, () -> x.wordAt(natural, 0));
            Checks.thrown("14: size of " + natural, OUTSIDE, () -> x.size(natural));
            Checks.thrown("15: multiply to " + natural, OUTSIDE, () -> x.multiply(natural, 0, 0));
            Checks.thrown("15: multiply a " + natural, OUTSIDE, () -> x.multiply(0, natural, 0));
            Checks.thrown("15: multiply b " + natural, OUTSIDE, () -> x.multiply(0, 5, natural));
            Checks.thrown("16: sum to " + natural, OUTSIDE, () -> x.sum(natural, 0, 0));
            Checks.thrown("16: sum a " + natural, OUTSIDE, () -> x.sum(0, natural, 0));
            Checks.thrown("16: sum b " + natural, OUTSIDE, () -> x.sum(0, 0, natural));
        }
        for (int k : NO_WORD) {
            Checks.thrown("12: word k " + k, OUTSIDE, () -> x.word(0, k, 1));
            Checks.thrown("13: wordAt k " + k, OUTSIDE, () -> x.wordAt(0, k));
        }
        Checks.same("12: what throws changes nothing", x.size(0), 1);
        Checks.same("12: what throws changes nothing", x.wordAt(0, 0), 3);
    }

    private static void sizeFollowsWords() {
        WheelProducts x = new WheelProducts();
        x.word(2, 0, 1);
        Checks.same("14: one", x.size(2), 1);
        x.word(2, 239, 1L << 31);
        Checks.same("14: all", x.size(2), 240);
        x.word(2, 100, 1);
        x.word(2, 239, 1L << 32);
        Checks.same("14: the last became 0", x.size(2), 101);
        x.word(2, 100, 0);
        x.word(2, 0, 0);
        Checks.same("14: none", x.size(2), 0);
        Checks.same("14: another", x.size(1), 0);
    }

    private static void put(WheelProducts x, int natural, BigInteger value) {
        for (int k = 0; k < 240; k++) {
            x.word(natural, k, value.shiftRight(32 * k).longValue());
        }
    }

    private static BigInteger told(WheelProducts x, int natural) {
        BigInteger value = BigInteger.ZERO;
        for (int k = 239; k >= 0; k--) {
            value = value.shiftLeft(32).add(BigInteger.valueOf(x.wordAt(natural, k)));
        }
        return value;
    }

    private static void compare(String what, WheelProducts x, int natural, BigInteger due) {
        Checks.same(what + ", natural " + natural, told(x, natural).equals(due), true);
    }

    private static int words(BigInteger value) {
        return (value.bitLength() + 31) / 32;
    }

    private static BigInteger allBits(int words) {
        return BigInteger.ONE.shiftLeft(32 * words).subtract(BigInteger.ONE);
    }

    private static BigInteger mixed(int words, int seed) {
        return new BigInteger(32 * words - 1, new java.util.Random(seed)).setBit(32 * words - 1 - seed % 32);
    }

    private static void multiplyAnyNaturals() {
        int[][] sizes = {{1, 1}, {1, 2}, {2, 3}, {17, 40}, {120, 120}, {1, 239}, {239, 1}, {200, 40}, {119, 121}};
        for (int[] pair : sizes) {
            multiplyThem(allBits(pair[0]), allBits(pair[1]));
            multiplyThem(mixed(pair[0], 31), mixed(pair[1], 63));
            multiplyThem(mixed(pair[0], 5), mixed(pair[1], 6));
            multiplyThem(BigInteger.ONE.shiftLeft(32 * pair[0] - 32), BigInteger.ONE.shiftLeft(32 * pair[1] - 32));
        }
        WheelProducts x = new WheelProducts();
        BigInteger value = mixed(120, 8);
        put(x, 1, value);
        Checks.same("15: a square elsewhere", x.multiply(2, 1, 1), words(value.multiply(value)));
        compare("15: a square elsewhere", x, 2, value.multiply(value));
        Checks.same("15: a square in its place", x.multiply(1, 1, 1), words(value.multiply(value)));
        compare("15: a square in its place", x, 1, value.multiply(value));
    }

    private static void multiplyThem(BigInteger a, BigInteger b) {
        WheelProducts x = new WheelProducts();
        BigInteger due = a.multiply(b);
        String what = "15: multiply sizes " + words(a) + " and " + words(b);
        put(x, 0, a);
        put(x, 1, b);
        put(x, 2, allBits(240));
        Checks.same(what, x.multiply(2, 0, 1), words(due));
        Checks.same(what + ", size", x.size(2), words(due));
        compare(what, x, 2, due);
        compare(what + ", a stays", x, 0, a);
        compare(what + ", b stays", x, 1, b);
        Checks.same(what + " on a", x.multiply(0, 0, 1), words(due));
        compare(what + " on a", x, 0, due);
        put(x, 0, a);
        Checks.same(what + " on b", x.multiply(1, 0, 1), words(due));
        compare(what + " on b", x, 1, due);
    }

    private static void multiplyRefuses() {
        WheelProducts x = new WheelProducts();
        // Their product would have 240 words, yet the sizes together are 241.
        BigInteger a = BigInteger.ONE.shiftLeft(32 * 120);
        BigInteger b = BigInteger.ONE.shiftLeft(32 * 119);
        put(x, 0, a);
        put(x, 1, b);
        put(x, 2, allBits(240));
        put(x, 3, BigInteger.ONE);
        Checks.thrown("15: 121 and 120", NO_ROOM, () -> x.multiply(0, 0, 1));
        Checks.thrown("15: 120 and 121", NO_ROOM, () -> x.multiply(1, 1, 0));
        Checks.thrown("15: 240 and 1", NO_ROOM, () -> x.multiply(3, 2, 3));
        Checks.thrown("15: 1 and 240", NO_ROOM, () -> x.multiply(2, 3, 2));
        Checks.thrown("15: 240 and 240", NO_ROOM, () -> x.multiply(4, 2, 2));
        Checks.thrown("15: no natural before no room", OUTSIDE, () -> x.multiply(-1, 2, 2));
        compare("15: what throws changes nothing", x, 0, a);
        compare("15: what throws changes nothing", x, 1, b);
        compare("15: what throws changes nothing", x, 2, allBits(240));
        compare("15: what throws changes nothing", x, 3, BigInteger.ONE);
        compare("15: what throws changes nothing", x, 4, BigInteger.ZERO);
    }

    private static void multiplyByNothing() {
        WheelProducts x = new WheelProducts();
        put(x, 0, allBits(240));
        put(x, 1, allBits(240));
        Checks.same("15: nothing times all", x.multiply(1, 5, 0), 0);
        compare("15: nothing times all", x, 1, BigInteger.ZERO);
        compare("15: all stays", x, 0, allBits(240));
        Checks.same("15: all times nothing", x.multiply(0, 0, 5), 0);
        compare("15: all times nothing", x, 0, BigInteger.ZERO);
        Checks.same("15: nothing times nothing", x.multiply(5, 5, 5), 0);
    }

    private static void sumOfAnyNaturals() {
        addThem(BigInteger.ZERO, BigInteger.ZERO);
        addThem(allBits(240), BigInteger.ZERO);
        addThem(BigInteger.ZERO, mixed(240, 3));
        addThem(allBits(239), BigInteger.ONE);
        addThem(allBits(1), allBits(1));
        addThem(allBits(120), allBits(239));
        addThem(mixed(239, 4), mixed(239, 9));
        addThem(allBits(240).subtract(BigInteger.TEN), BigInteger.TEN);
        addThem(BigInteger.ONE.shiftLeft(32 * 240 - 1).subtract(BigInteger.ONE), BigInteger.ONE.shiftLeft(32 * 240 - 1));
        WheelProducts x = new WheelProducts();
        put(x, 3, allBits(239));
        Checks.same("16: twice, in its place", x.sum(3, 3, 3), 240);
        compare("16: twice, in its place", x, 3, allBits(239).shiftLeft(1));
    }

    private static void addThem(BigInteger a, BigInteger b) {
        WheelProducts x = new WheelProducts();
        BigInteger due = a.add(b);
        String what = "16: sum of sizes " + words(a) + " and " + words(b);
        put(x, 0, a);
        put(x, 1, b);
        put(x, 2, allBits(240));
        Checks.same(what, x.sum(2, 0, 1), words(due));
        Checks.same(what + ", size", x.size(2), words(due));
        compare(what, x, 2, due);
        compare(what + ", a stays", x, 0, a);
        compare(what + ", b stays", x, 1, b);
        Checks.same(what + " on b", x.sum(1, 0, 1), words(due));
        compare(what + " on b", x, 1, due);
        put(x, 1, b);
        Checks.same(what + " on a", x.sum(0, 0, 1), words(due));
        compare(what + " on a", x, 0, due);
    }

    private static void sumRefuses() {
        WheelProducts x = new WheelProducts();
        BigInteger half = BigInteger.ONE.shiftLeft(32 * 240 - 1);
        put(x, 0, allBits(240));
        put(x, 1, BigInteger.ONE);
        put(x, 2, half);
        Checks.thrown("16: all and one", NO_ROOM, () -> x.sum(0, 0, 1));
        Checks.thrown("16: one and all", NO_ROOM, () -> x.sum(1, 1, 0));
        Checks.thrown("16: half twice", NO_ROOM, () -> x.sum(2, 2, 2));
        Checks.thrown("16: all twice", NO_ROOM, () -> x.sum(3, 0, 0));
        Checks.thrown("16: no natural before no room", OUTSIDE, () -> x.sum(6, 0, 0));
        compare("16: what throws changes nothing", x, 0, allBits(240));
        compare("16: what throws changes nothing", x, 1, BigInteger.ONE);
        compare("16: what throws changes nothing", x, 2, half);
        compare("16: what throws changes nothing", x, 3, BigInteger.ZERO);
    }
}
