/** Promises 6 to 11: put, get, length, turn, product, at. */
public final class RowsTest {
    private static final Class<IndexOutOfBoundsException> OUTSIDE = IndexOutOfBoundsException.class;
    private static final Class<IllegalArgumentException> ILLEGAL = IllegalArgumentException.class;
    private static final Class<UnsupportedOperationException> NO_ROOM = UnsupportedOperationException.class;
    private static final int[] NO_INDEX = {-1, 6, 7, 512, Integer.MIN_VALUE, Integer.MAX_VALUE};
    private static final int[] NO_COEFFICIENT = {-1, 512, 513, Integer.MIN_VALUE, Integer.MAX_VALUE};

    public static void main(String[] args) {
        putTellsWhetherAnother();
        wrongIndexes();
        lengthFollowsCoefficients();
        turnByItsMeaning();
        turnRefuses();
        productOfAnyRows();
        productRefuses();
        productOfNothing();
        productFillsAllRoom();
        atAnyNumber();
        Checks.end();
    }

    private static void putTellsWhetherAnother() {
        WheelProducts x = new WheelProducts();
        x.field(7681);
        Checks.same("6: 0 on 0", x.put(0, 0, 0), false);
        Checks.same("6: p on 0", x.put(0, 0, 7681), false);
        Checks.same("6: 5 on 0", x.put(0, 0, 5), true);
        Checks.same("6: 5 on 5", x.put(0, 0, 5), false);
        Checks.same("6: p + 5 on 5", x.put(0, 0, 7686), false);
        Checks.same("6: 5 - p on 5", x.put(0, 0, 5 - 7681), false);
        Checks.same("6: -1 on 5", x.put(0, 0, -1), true);
        Checks.same("7: -1 is told as p - 1", x.get(0, 0), 7680);
        Checks.same("6: least long", x.put(5, 511, Long.MIN_VALUE), true);
        Checks.same("7: least long", x.get(5, 511), Math.floorMod(Long.MIN_VALUE, 7681L));
        Checks.same("6: greatest long", x.put(5, 511, Long.MAX_VALUE), true);
        Checks.same("7: greatest long", x.get(5, 511), Long.MAX_VALUE % 7681);
        Checks.same("7: another row", x.get(4, 511), 0);
        Checks.same("7: another coefficient", x.get(5, 510), 0);
    }

    private static void wrongIndexes() {
        WheelProducts x = new WheelProducts();
        x.put(0, 0, 3);
        for (int row : NO_INDEX) {
            Checks.thrown("6: put row " + row, OUTSIDE, () -> x.put(row, 0, 1));
            Checks.thrown("7: get row " + row, OUTSIDE, () -> x.get(row, 0));
            Checks.thrown("8: length row " + row, OUTSIDE, () -> x.length(row));
            Checks.thrown("9: turn row " + row, OUTSIDE, () -> x.turn(row, 4, false));
            Checks.thrown("9: turn row " + row + " by 3", OUTSIDE, () -> x.turn(row, 3, true));
            Checks.thrown("10: product to " + row, OUTSIDE, () -> x.product(row, 0, 0));
            Checks.thrown("10: product of a " + row, OUTSIDE, () -> x.product(0, row, 0));
            Checks.thrown("10: product of b " + row, OUTSIDE, () -> x.product(0, 0, row));
            Checks.thrown("10: product of nothing and " + row, OUTSIDE, () -> x.product(0, 5, row));
            Checks.thrown("11: at row " + row, OUTSIDE, () -> x.at(row, 0));
        }
        for (int k : NO_COEFFICIENT) {
            Checks.thrown("6: put k " + k, OUTSIDE, () -> x.put(0, k, 1));
            Checks.thrown("7: get k " + k, OUTSIDE, () -> x.get(0, k));
        }
        Checks.same("6: what throws changes nothing", x.length(0), 1);
        Checks.same("6: what throws changes nothing", x.get(0, 0), 3);
    }

    private static void lengthFollowsCoefficients() {
        WheelProducts x = new WheelProducts();
        x.put(1, 0, 1);
        Checks.same("8: one", x.length(1), 1);
        x.put(1, 511, 1);
        Checks.same("8: all", x.length(1), 512);
        x.put(1, 200, 4);
        x.put(1, 511, 998244353);
        Checks.same("8: the last became 0", x.length(1), 201);
        x.put(1, 200, 0);
        x.put(1, 0, 0);
        Checks.same("8: none", x.length(1), 0);
        Checks.same("8: another row", x.length(0), 0);
    }

    private static void turnByItsMeaning() {
        for (long p : new long[] {998244353L, 7681L, 2147483137L}) {
            WheelProducts x = new WheelProducts();
            long root = x.field(p);
            for (int n = 1; n <= 512; n *= 2) {
                long[] before = fill(x, 3, p, n);
                long[] due = turned(before, n, x.power(root, (p - 1) / n), p);
                x.turn(3, n, false);
                compare("9: turn by " + n, x, 3, due);
                x.turn(3, n, true);
                compare("9: back by " + n, x, 3, before);
                x.turn(3, n, true);
                x.turn(3, n, false);
                compare("9: back, then turned, by " + n, x, 3, before);
                Checks.same("9: another row", x.length(2), 0);
            }
        }
    }

    private static long[] fill(WheelProducts x, int row, long p, long seed) {
        long[] numbers = new long[512];
        long value = seed;
        for (int k = 0; k < 512; k++) {
            value = value * 6364136223846793005L + 1442695040888963407L;
            numbers[k] = k % 7 == 3 ? p - 1 : Math.floorMod(value >> 20, p);
            x.put(row, k, numbers[k]);
        }
        return numbers;
    }

    private static long[] turned(long[] before, int n, long w, long p) {
        long[] due = before.clone();
        long[] powers = new long[n];
        powers[0] = 1;
        for (int k = 1; k < n; k++) {
            powers[k] = powers[k - 1] * w % p;
        }
        for (int j = 0; j < n; j++) {
            long value = 0;
            for (int i = 0; i < n; i++) {
                value = (value + before[i] * powers[i * j % n]) % p;
            }
            due[j] = value;
        }
        return due;
    }

    private static void compare(String what, WheelProducts x, int row, long[] due) {
        for (int k = 0; k < 512; k++) {
            Checks.same(what + ", get(" + row + ", " + k + ")", x.get(row, k), k < due.length ? due[k] : 0);
        }
    }

    private static void turnRefuses() {
        WheelProducts x = new WheelProducts();
        long[] before = fill(x, 0, 998244353L, 1);
        int[] none = {0, 3, 5, 6, 7, 12, 255, 257, 384, 511, 513, 1024, 65536, 1 << 30,
            -1, -2, -512, Integer.MIN_VALUE, Integer.MAX_VALUE};
        for (int n : none) {
            Checks.thrown("9: turn by " + n, ILLEGAL, () -> x.turn(0, n, false));
            Checks.thrown("9: back by " + n, ILLEGAL, () -> x.turn(0, n, true));
        }
        compare("9: what throws changes nothing", x, 0, before);
    }

    private static long[] putShort(WheelProducts x, int row, int length, long p, long seed) {
        long[] numbers = new long[length];
        for (int k = 0; k < 512; k++) {
            long value = k < length ? 1 + Math.floorMod(seed * (k + 1) * 2654435761L, p - 1) : 0;
            x.put(row, k, value);
            if (k < length) {
                numbers[k] = value;
            }
        }
        return numbers;
    }

    private static long[] slowProduct(long[] a, long[] b, long p) {
        long[] due = new long[a.length + b.length - 1];
        for (int i = 0; i < a.length; i++) {
            for (int j = 0; j < b.length; j++) {
                due[i + j] = (due[i + j] + a[i] * b[j]) % p;
            }
        }
        return due;
    }

    private static void productOfAnyRows() {
        int[][] lengths = {{1, 1}, {1, 2}, {2, 2}, {3, 2}, {3, 3}, {5, 4}, {5, 5}, {8, 9}, {100, 29}, {200, 57},
            {257, 256}, {512, 1}, {1, 512}, {511, 2}, {300, 213}, {129, 128}};
        long p = 2147483137L;
        for (int[] pair : lengths) {
            WheelProducts x = new WheelProducts();
            x.field(p);
            putShort(x, 2, 512, p, 3);
            long[] a = putShort(x, 0, pair[0], p, 11);
            long[] b = putShort(x, 1, pair[1], p, 13);
            long[] due = slowProduct(a, b, p);
            String what = "10: product of lengths " + pair[0] + " and " + pair[1];
            Checks.same(what, x.product(2, 0, 1), due.length);
            compare(what, x, 2, due);
            compare(what + ", a stays", x, 0, a);
            compare(what + ", b stays", x, 1, b);
            Checks.same(what + " on a", x.product(0, 0, 1), due.length);
            compare(what + " on a", x, 0, due);
            putShort(x, 0, pair[0], p, 11);
            Checks.same(what + " on b", x.product(1, 0, 1), due.length);
            compare(what + " on b", x, 1, due);
        }
        productOfOneRow(p);
    }

    private static void productOfOneRow(long p) {
        WheelProducts x = new WheelProducts();
        x.field(p);
        long[] a = putShort(x, 4, 256, p, 17);
        long[] due = slowProduct(a, a, p);
        Checks.same("10: a square elsewhere", x.product(5, 4, 4), 511);
        compare("10: a square elsewhere", x, 5, due);
        Checks.same("10: a square in its place", x.product(4, 4, 4), 511);
        compare("10: a square in its place", x, 4, due);
    }

    private static void productRefuses() {
        WheelProducts x = new WheelProducts();
        long p = 998244353L;
        long[] a = putShort(x, 0, 257, p, 5);
        long[] b = putShort(x, 1, 512, p, 7);
        long[] c = putShort(x, 2, 2, p, 7);
        Checks.thrown("10: 257 and 257", NO_ROOM, () -> x.product(3, 0, 0));
        Checks.thrown("10: 257 and 257 in its place", NO_ROOM, () -> x.product(0, 0, 0));
        Checks.thrown("10: 512 and 2", NO_ROOM, () -> x.product(1, 1, 2));
        Checks.thrown("10: 2 and 512", NO_ROOM, () -> x.product(2, 2, 1));
        Checks.thrown("10: 512 and 512", NO_ROOM, () -> x.product(0, 1, 1));
        Checks.thrown("10: no row before no room", OUTSIDE, () -> x.product(6, 1, 1));
        compare("10: what throws changes nothing", x, 0, a);
        compare("10: what throws changes nothing", x, 1, b);
        compare("10: what throws changes nothing", x, 2, c);
        Checks.same("10: what throws changes nothing", x.length(3), 0);
    }

    private static void productOfNothing() {
        WheelProducts x = new WheelProducts();
        putShort(x, 0, 512, 998244353L, 5);
        putShort(x, 1, 512, 998244353L, 5);
        Checks.same("10: nothing times all", x.product(1, 5, 0), 0);
        Checks.same("10: nothing times all", x.length(1), 0);
        Checks.same("10: all stays", x.length(0), 512);
        Checks.same("10: all times nothing", x.product(0, 0, 5), 0);
        Checks.same("10: all times nothing", x.length(0), 0);
        Checks.same("10: nothing times nothing", x.product(5, 5, 5), 0);
    }

    private static void productFillsAllRoom() {
        WheelProducts x = new WheelProducts();
        x.put(0, 511, 5);
        x.put(0, 0, 1);
        x.put(1, 0, -1);
        Checks.same("10: 512 and 1", x.product(2, 0, 1), 512);
        Checks.same("10: 512 and 1", x.get(2, 511), 998244353L - 5);
        x.put(3, 256, 2);
        x.put(4, 255, 3);
        Checks.same("10: 257 and 256", x.product(3, 3, 4), 512);
        Checks.same("10: 257 and 256", x.get(3, 511), 6);
        Checks.same("10: 257 and 256", x.get(3, 0), 0);
    }

    private static void atAnyNumber() {
        for (long p : new long[] {7681L, 2147483137L}) {
            WheelProducts x = new WheelProducts();
            x.field(p);
            Checks.same("11: no coefficient", x.at(1, 5), 0);
            long[] numbers = fill(x, 1, p, 99);
            for (long given : new long[] {0, 1, -1, 2, p, p - 1, p + 3, -p, Long.MAX_VALUE, Long.MIN_VALUE}) {
                long base = Math.floorMod(given, p);
                long step = 1;
                long due = 0;
                for (long number : numbers) {
                    due = (due + number * step) % p;
                    step = step * base % p;
                }
                Checks.same("11: at(1, " + given + ")", x.at(1, given), due);
            }
            compare("11: at changes nothing", x, 1, numbers);
        }
    }
}
