import java.math.BigInteger;

/** The document's words once more, as slow and plain as can be, for RandomRunsTest. */
final class Model {
    private static final BigInteger ROOM = BigInteger.ONE.shiftLeft(32 * 240);
    private static final BigInteger MASK = BigInteger.ONE.shiftLeft(32).subtract(BigInteger.ONE);

    private long p = 998244353L;
    private long root = 3;
    private final long[][] rows = new long[6][512];
    private final BigInteger[] naturals = new BigInteger[6];

    Model() {
        java.util.Arrays.fill(naturals, BigInteger.ZERO);
    }

    long call(String name, long a, long b, long c) {
        switch (name) {
            case "field": return field(a);
            case "times": return rest(a) * rest(b) % p;
            case "power": illegal(b < 0); return power(a, b);
            case "inverse": illegal(rest(a) == 0); return big(a).modInverse(big(p)).longValue();
            case "put": return put(row(a), b, rest(c));
            case "get": return row(a)[place(b, 512)];
            case "length": return length(row(a));
            case "turn": return turn(row(a), b, c == 1);
            case "product": return product(row(a), row(b), row(c));
            case "at": return at(row(a), rest(b));
            case "word": return word(natural(a), place(b, 240), c);
            case "wordAt": return naturals[natural(a)].shiftRight(32 * place(b, 240)).and(MASK).longValue();
            case "size": return size(naturals[natural(a)]);
            case "multiply": return multiply(natural(a), naturals[natural(b)], naturals[natural(c)]);
            default: return keep(natural(a), naturals[natural(b)].add(naturals[natural(c)]));
        }
    }

    private static BigInteger big(long v) {
        return BigInteger.valueOf(v);
    }

    private static void illegal(boolean so) {
        if (so) {
            throw new IllegalArgumentException();
        }
    }

    private static void noRoom(boolean so) {
        if (so) {
            throw new UnsupportedOperationException();
        }
    }

    private static int place(long k, int bound) {
        if (k < 0 || k >= bound) {
            throw new IndexOutOfBoundsException();
        }
        return (int) k;
    }

    private long[] row(long k) {
        return rows[place(k, 6)];
    }

    private static int natural(long k) {
        return place(k, 6);
    }

    private long rest(long a) {
        return Math.floorMod(a, p);
    }

    private long power(long a, long e) {
        return big(a).mod(big(p)).modPow(big(e), big(p)).longValue();
    }

    private long field(long given) {
        illegal(given < 2 || given >= 1L << 31 || given % 512 != 1 || !big(given).isProbablePrime(60));
        p = given;
        root = 1;
        while (!isRoot(root)) {
            root++;
        }
        for (long[] row : rows) {
            java.util.Arrays.fill(row, 0);
        }
        return root;
    }

    private boolean isRoot(long g) {
        for (long d = 1; d * d <= p - 1; d++) {
            if ((p - 1) % d == 0 && (power(g, d) == 1 || d > 1 && power(g, (p - 1) / d) == 1)) {
                return false;
            }
        }
        return true;
    }

    private static long put(long[] row, long k, long v) {
        int at = place(k, 512);
        boolean another = row[at] != v;
        row[at] = v;
        return another ? 1 : 0;
    }

    private static int length(long[] row) {
        int length = 0;
        for (int k = 0; k < 512; k++) {
            length = row[k] != 0 ? k + 1 : length;
        }
        return length;
    }

    private long turn(long[] row, long n, boolean back) {
        illegal(n < 1 || n > 512 || Long.bitCount(n) != 1);
        long w = power(root, (p - 1) / n);
        long used = back ? big(w).modInverse(big(p)).longValue() : w;
        long share = back ? big(n).modInverse(big(p)).longValue() : 1;
        long[] before = row.clone();
        long base = 1;
        for (int j = 0; j < n; j++) {
            long value = 0;
            for (int i = (int) n - 1; i >= 0; i--) {
                value = (value * base + before[i]) % p;
            }
            row[j] = value * share % p;
            base = base * used % p;
        }
        return 0;
    }

    private long product(long[] to, long[] a, long[] b) {
        int lengthA = length(a);
        int lengthB = length(b);
        noRoom(lengthA > 0 && lengthB > 0 && lengthA + lengthB - 1 > 512);
        long[] answer = new long[512];
        for (int i = 0; i < lengthA; i++) {
            for (int j = 0; j < lengthB; j++) {
                answer[i + j] = (answer[i + j] + a[i] * b[j]) % p;
            }
        }
        System.arraycopy(answer, 0, to, 0, 512);
        return length(to);
    }

    private long at(long[] row, long x) {
        long value = 0;
        long step = 1;
        for (long coefficient : row) {
            value = (value + coefficient * step) % p;
            step = step * x % p;
        }
        return value;
    }

    private long word(int natural, int k, long v) {
        BigInteger before = naturals[natural];
        BigInteger cleared = before.andNot(MASK.shiftLeft(32 * k));
        naturals[natural] = cleared.or(big(v).and(MASK).shiftLeft(32 * k));
        return naturals[natural].equals(before) ? 0 : 1;
    }

    private static int size(BigInteger value) {
        return (value.bitLength() + 31) / 32;
    }

    private long multiply(int to, BigInteger a, BigInteger b) {
        noRoom(size(a) > 0 && size(b) > 0 && size(a) + size(b) > 240);
        return keep(to, a.multiply(b));
    }

    private long keep(int to, BigInteger value) {
        noRoom(value.compareTo(ROOM) >= 0);
        naturals[to] = value;
        return size(value);
    }
}
