import java.math.BigInteger;
import java.util.Arrays;

/** The document's words once more, as slow and plain as can be. */
final class Model implements Machine {
    private static final BigInteger ROOM = BigInteger.ONE.shiftLeft(32 * 240);
    private static final BigInteger MASK = BigInteger.ONE.shiftLeft(32).subtract(BigInteger.ONE);

    private long p = 998244353L;
    private long root = 3;
    private final long[][] rows = new long[6][512];
    private final BigInteger[] naturals = new BigInteger[6];

    Model() {
        Arrays.fill(naturals, BigInteger.ZERO);
    }

    private static BigInteger big(long v) {
        return BigInteger.valueOf(v);
    }

    private static void illegal(boolean so) {
        if (so) {
            throw new IllegalArgumentException();
        }
    }

    private static void noRoom(boolean so) {
        if (so) {
            throw new UnsupportedOperationException();
        }
    }

    private static void outside(int k, int bound) {
        if (k < 0 || k >= bound) {
            throw new IndexOutOfBoundsException();
        }
    }

    private long rest(long a) {
        return big(a).mod(big(p)).longValue();
    }

    private long raise(long a, long e) {
        return big(a).mod(big(p)).modPow(big(e), big(p)).longValue();
    }

    private static int used(long[] row) {
        int length = 0;
        for (int k = 0; k < 512; k++) {
            length = row[k] != 0 ? k + 1 : length;
        }
        return length;
    }

    private static int words(BigInteger value) {
        return (value.bitLength() + 31) / 32;
    }

    @Override
    public long field(long given) {
        illegal(given < 2 || given >= 1L << 31 || (given - 1) % 512 != 0 || !isPrime(given));
        p = given;
        root = 1;
        while (!isRoot(root)) {
            root++;
        }
        for (long[] row : rows) {
            Arrays.fill(row, 0);
        }
        return root;
    }

    private static boolean isPrime(long number) {
        for (long d = 2; d * d <= number; d++) {
            if (number % d == 0) {
                return false;
            }
        }
        return number > 1;
    }

    private boolean isRoot(long g) {
        for (long d = 1; d * d <= p - 1; d++) {
            if ((p - 1) % d == 0 && (raise(g, d) == 1 || d > 1 && raise(g, (p - 1) / d) == 1)) {
                return false;
            }
        }
        return true;
    }

    @Override
    public long times(long a, long b) {
        return big(a).multiply(big(b)).mod(big(p)).longValue();
    }

    @Override
    public long power(long a, long e) {
        illegal(e < 0);
        return raise(a, e);
    }

    @Override
    public long inverse(long a) {
        illegal(rest(a) == 0);
        return big(a).modInverse(big(p)).longValue();
    }

    @Override
    public boolean put(int row, int k, long v) {
        outside(row, 6);
        outside(k, 512);
        long before = rows[row][k];
        rows[row][k] = rest(v);
        return rows[row][k] != before;
    }

    @Override
    public long get(int row, int k) {
        outside(row, 6);
        outside(k, 512);
        return rows[row][k];
    }

    @Override
    public int length(int row) {
        outside(row, 6);
        return used(rows[row]);
    }

    @Override
    public void turn(int row, int n, boolean back) {
        outside(row, 6);
        illegal(n < 1 || n > 512 || Integer.bitCount(n) != 1);
        long w = raise(root, (p - 1) / n);
        long used = back ? big(w).modInverse(big(p)).longValue() : w;
        long share = back ? big(n).modInverse(big(p)).longValue() : 1;
        long[] before = rows[row].clone();
        long base = 1;
        for (int j = 0; j < n; j++) {
            long value = 0;
            for (int i = n - 1; i >= 0; i--) {
                value = (value * base + before[i]) % p;
            }
            rows[row][j] = value * share % p;
            base = base * used % p;
        }
    }

    @Override
    public int product(int to, int a, int b) {
        outside(to, 6);
        outside(a, 6);
        outside(b, 6);
        int lengthA = used(rows[a]);
        int lengthB = used(rows[b]);
        noRoom(lengthA > 0 && lengthB > 0 && lengthA + lengthB - 1 > 512);
        long[] answer = new long[512];
        for (int i = 0; i < lengthA; i++) {
            for (int j = 0; j < lengthB; j++) {
                answer[i + j] = (answer[i + j] + rows[a][i] * rows[b][j]) % p;
            }
        }
        rows[to] = answer;
        return used(answer);
    }

    @Override
    public long at(int row, long x) {
        outside(row, 6);
        long value = 0;
        long step = 1;
        for (long coefficient : rows[row]) {
            value = (value + coefficient * step) % p;
            step = step * rest(x) % p;
        }
        return value;
    }

    @Override
    public boolean word(int natural, int k, long v) {
        outside(natural, 6);
        outside(k, 240);
        BigInteger before = naturals[natural];
        BigInteger cleared = before.andNot(MASK.shiftLeft(32 * k));
        naturals[natural] = cleared.or(big(v).and(MASK).shiftLeft(32 * k));
        return !naturals[natural].equals(before);
    }

    @Override
    public long wordAt(int natural, int k) {
        outside(natural, 6);
        outside(k, 240);
        return naturals[natural].shiftRight(32 * k).and(MASK).longValue();
    }

    @Override
    public int size(int natural) {
        outside(natural, 6);
        return words(naturals[natural]);
    }

    @Override
    public int multiply(int to, int a, int b) {
        outside(to, 6);
        outside(a, 6);
        outside(b, 6);
        int sizeA = words(naturals[a]);
        int sizeB = words(naturals[b]);
        noRoom(sizeA > 0 && sizeB > 0 && sizeA + sizeB > 240);
        naturals[to] = naturals[a].multiply(naturals[b]);
        return words(naturals[to]);
    }

    @Override
    public int sum(int to, int a, int b) {
        outside(to, 6);
        outside(a, 6);
        outside(b, 6);
        BigInteger value = naturals[a].add(naturals[b]);
        noRoom(value.compareTo(ROOM) >= 0);
        naturals[to] = value;
        return words(value);
    }
}
