import java.util.Arrays;

/**
 * Products made by turning rows of numbers into what they come to at powers of a root, and back:
 * polynomials modulo a prime, and natural numbers, exactly.
 */
public final class WheelProducts {
    public static final int NONE = -1;

    private static final int ROWS = 6;
    private static final int COEFFICIENTS = 512;
    private static final int NATURALS = 6;
    private static final int WORDS = 240;
    private static final int WORD_BITS = 32;
    private static final long WORD_MASK = 0xFFFFFFFFL;

    private static final long PRIME_BOUND = 1L << 31;
    private static final int PRIME_BITS = 31;
    private static final long FIRST_PRIME = 998244353L;
    private static final long FIRST_ROOT = 3L;
    /** The ten least primes times one another are above 2 to the 31, so no number below has ten. */
    private static final int MOST_FACTORS = 9;

    /** Never below 2, as field takes no such number: dividing by it is always safe. */
    private long prime;
    /** Powers 0 .. 511 of the root to the power (p - 1) / 512; every turn needs only these. */
    private final long[] wheel = new long[COEFFICIENTS];
    private final long[][] rows = new long[ROWS][COEFFICIENTS];
    private final long[][] naturals = new long[NATURALS][WORDS];

    // Work space, made once so that calls make no objects; nothing in it outlives a call.
    private final long[] factors = new long[MOST_FACTORS];
    private final long[] left = new long[COEFFICIENTS];
    private final long[] right = new long[COEFFICIENTS];
    private final long[] answerWords = new long[WORDS];

    public WheelProducts() {
        usePrime(FIRST_PRIME, FIRST_ROOT);
    }

    // ---- 1 the prime

    public long field(long p) throws IllegalArgumentException {
        if (p < 2 || p >= PRIME_BOUND || (p - 1) % COEFFICIENTS != 0) {
            throw new IllegalArgumentException("not below 2 to the 31, or 512 does not divide p - 1");
        }
        long root = leastRoot(p);
        if (root == NONE) {
            throw new IllegalArgumentException("not a prime");
        }
        usePrime(p, root);
        for (int row = 0; row < ROWS; row++) {
            Arrays.fill(rows[row], 0L);
        }
        return root;
    }

    public long times(long a, long b) {
        return rest(a) * rest(b) % prime;
    }

    public long power(long a, long e) throws IllegalArgumentException {
        if (e < 0) {
            throw new IllegalArgumentException("the power is below 0");
        }
        return powerModulo(rest(a), e, prime);
    }

    public long inverse(long a) throws IllegalArgumentException {
        long number = rest(a);
        if (number == 0) {
            throw new IllegalArgumentException("0 has no inverse");
        }
        return inverseOf(number);
    }

    // ---- 2 rows

    public boolean put(int row, int k, long v) throws IndexOutOfBoundsException {
        checkRow(row);
        checkCoefficient(k);
        long before = rows[row][k];
        long after = rest(v);
        rows[row][k] = after;
        return before != after;
    }

    public long get(int row, int k) throws IndexOutOfBoundsException {
        checkRow(row);
        checkCoefficient(k);
        return rows[row][k];
    }

    public int length(int row) throws IndexOutOfBoundsException {
        checkRow(row);
        return usedPart(rows[row]);
    }

    public void turn(int row, int n, boolean back) throws IndexOutOfBoundsException, IllegalArgumentException {
        checkRow(row);
        checkTurn(n);
        if (back) {
            turnBackward(rows[row], n);
        } else {
            turnForward(rows[row], n);
        }
    }

    public int product(int to, int a, int b) throws IndexOutOfBoundsException, UnsupportedOperationException {
        checkRow(to);
        checkRow(a);
        checkRow(b);
        int lengthA = usedPart(rows[a]);
        int lengthB = usedPart(rows[b]);
        if (lengthA == 0 || lengthB == 0) {
            Arrays.fill(rows[to], 0L);
            return 0;
        }
        int answerLength = lengthA + lengthB - 1;
        if (answerLength > COEFFICIENTS) {
            throw new UnsupportedOperationException("the product has more than 512 coefficients");
        }
        multiplyRows(rows[to], rows[a], rows[b], turnThatHolds(answerLength));
        return answerLength;
    }

    public long at(int row, long x) throws IndexOutOfBoundsException {
        checkRow(row);
        long[] coefficients = rows[row];
        long number = rest(x);
        long value = 0;
        for (int k = usedPart(coefficients) - 1; k >= 0; k--) {
            value = (value * number + coefficients[k]) % prime;
        }
        return value;
    }

    // ---- 3 naturals

    public boolean word(int natural, int k, long v) throws IndexOutOfBoundsException {
        checkNatural(natural);
        checkWord(k);
        long before = naturals[natural][k];
        long after = v & WORD_MASK;
        naturals[natural][k] = after;
        return before != after;
    }

    public long wordAt(int natural, int k) throws IndexOutOfBoundsException {
        checkNatural(natural);
        checkWord(k);
        return naturals[natural][k];
    }

    public int size(int natural) throws IndexOutOfBoundsException {
        checkNatural(natural);
        return usedPart(naturals[natural]);
    }

    public int multiply(int to, int a, int b) throws IndexOutOfBoundsException, UnsupportedOperationException {
        checkNatural(to);
        checkNatural(a);
        checkNatural(b);
        int sizeA = usedPart(naturals[a]);
        int sizeB = usedPart(naturals[b]);
        if (sizeA == 0 || sizeB == 0) {
            Arrays.fill(naturals[to], 0L);
            return 0;
        }
        if (sizeA + sizeB > WORDS) {
            throw new UnsupportedOperationException("the sizes of both together are above 240");
        }
        multiplyWords(naturals[a], sizeA, naturals[b], sizeB);
        System.arraycopy(answerWords, 0, naturals[to], 0, WORDS);
        return usedPart(answerWords);
    }

    public int sum(int to, int a, int b) throws IndexOutOfBoundsException, UnsupportedOperationException {
        checkNatural(to);
        checkNatural(a);
        checkNatural(b);
        if (addWords(naturals[a], naturals[b]) != 0) {
            throw new UnsupportedOperationException("the sum has more than 240 words");
        }
        System.arraycopy(answerWords, 0, naturals[to], 0, WORDS);
        return usedPart(answerWords);
    }

    // ---- what there is

    private static void checkRow(int row) {
        if (row < 0 || row >= ROWS) {
            throw new IndexOutOfBoundsException("no such row");
        }
    }

    private static void checkCoefficient(int k) {
        if (k < 0 || k >= COEFFICIENTS) {
            throw new IndexOutOfBoundsException("no such coefficient");
        }
    }

    private static void checkNatural(int natural) {
        if (natural < 0 || natural >= NATURALS) {
            throw new IndexOutOfBoundsException("no such natural");
        }
    }

    private static void checkWord(int k) {
        if (k < 0 || k >= WORDS) {
            throw new IndexOutOfBoundsException("no such word");
        }
    }

    private static void checkTurn(int n) {
        if (n < 1 || n > COEFFICIENTS || (n & (n - 1)) != 0) {
            throw new IllegalArgumentException("n is none of 1, 2, 4, .. 512");
        }
    }

    /** One more than the greatest index whose number is not 0; 0 without one. */
    private static int usedPart(long[] numbers) {
        int used = numbers.length;
        while (used > 0 && numbers[used - 1] == 0) {
            used--;
        }
        return used;
    }

    // ---- the prime and its root

    private void usePrime(long p, long root) {
        prime = p;
        long step = powerModulo(root, (p - 1) / COEFFICIENTS, p);
        long value = 1;
        for (int k = 0; k < COEFFICIENTS; k++) {
            wheel[k] = value;
            value = value * step % p;
        }
    }

    /**
     * The least root of p, or NONE if p is no prime; p is above 512.
     * A number whose powers are p - 1 different ones is found only for a prime. For any other p the
     * loop ends at the least divisor of p at the latest, as no power of a divisor is 1 modulo p.
     */
    private long leastRoot(long p) {
        int count = findFactors(p - 1);
        for (long g = 2; g < p; g++) {
            if (powerModulo(g, p - 1, p) != 1) {
                return NONE;
            }
            if (comesToOneOnlyAtTheEnd(g, p, count)) {
                return g;
            }
        }
        return NONE;
    }

    /** Of a g whose power p - 1 is 1: whether no lesser power above 0 is. */
    private boolean comesToOneOnlyAtTheEnd(long g, long p, int count) {
        for (int i = 0; i < count; i++) {
            if (powerModulo(g, (p - 1) / factors[i], p) == 1) {
                return false;
            }
        }
        return true;
    }

    /** Puts the different primes that divide a number (below 2 to the 31) into factors: how many. */
    private int findFactors(long number) {
        int count = 0;
        long remaining = number;
        for (long d = 2; d * d <= remaining; d++) {
            if (remaining % d == 0 && count < MOST_FACTORS) {
                factors[count] = d;
                count++;
                remaining = without(remaining, d);
            }
        }
        if (remaining > 1 && count < MOST_FACTORS) {
            factors[count] = remaining;
            count++;
        }
        return count;
    }

    private static long without(long number, long divisor) {
        long remaining = number;
        for (int i = 0; i < PRIME_BITS && remaining % divisor == 0; i++) {
            remaining /= divisor;
        }
        return remaining;
    }

    // ---- numbers modulo p

    private long rest(long a) {
        return Math.floorMod(a, prime);
    }

    /** The base is 0 .. modulus - 1, and the modulus below 2 to the 31, so no product wraps. */
    private static long powerModulo(long base, long e, long modulus) {
        long answer = 1;
        long square = base;
        for (long bits = e; bits > 0; bits >>= 1) {
            if ((bits & 1) == 1) {
                answer = answer * square % modulus;
            }
            square = square * square % modulus;
        }
        return answer;
    }

    /** Of a number 1 .. p - 1: its power p - 1 is 1, so the power before is what it lacks. */
    private long inverseOf(long number) {
        return powerModulo(number, prime - 2, prime);
    }

    // ---- turning

    /** In n log n steps: turned parts of one coefficient are joined to parts of two, four, .. n. */
    private void turnForward(long[] row, int n) {
        orderByMirroredBits(row, n);
        int step = COEFFICIENTS / 2;
        for (int half = 1; half < n; half *= 2) {
            joinHalves(row, n, half, step);
            step /= 2;
        }
    }

    /** Turning twice gives n times each coefficient, those above 0 in opposite order. */
    private void turnBackward(long[] row, int n) {
        turnForward(row, n);
        long share = inverseOf(n);
        for (int k = 0; k < n; k++) {
            row[k] = row[k] * share % prime;
        }
        int high = n - 1;
        for (int low = 1; low < high; low++) {
            swap(row, low, high);
            high--;
        }
    }

    /** Brings even ones before odd ones, and so on within both, as joinHalves needs them. */
    private static void orderByMirroredBits(long[] row, int n) {
        int mirrored = 0;
        for (int k = 1; k < n; k++) {
            mirrored = nextMirrored(mirrored, n);
            if (k < mirrored) {
                swap(row, k, mirrored);
            }
        }
    }

    /** Adds one to a number below n whose bits stand in opposite order: the carry goes downwards. */
    private static int nextMirrored(int mirrored, int n) {
        int next = mirrored;
        int bit = n / 2;
        while (bit > 0 && (next & bit) != 0) {
            next -= bit;
            bit /= 2;
        }
        return next + bit;
    }

    private static void swap(long[] row, int i, int j) {
        long kept = row[i];
        row[i] = row[j];
        row[j] = kept;
    }

    private void joinHalves(long[] row, int n, int half, int step) {
        for (int start = 0; start < n; start += 2 * half) {
            for (int i = 0; i < half; i++) {
                int low = start + i;
                int high = low + half;
                long even = row[low];
                long odd = row[high] * wheel[i * step] % prime;
                long added = even + odd;
                long taken = even - odd;
                row[low] = added >= prime ? added - prime : added;
                row[high] = taken < 0 ? taken + prime : taken;
            }
        }
    }

    private static int turnThatHolds(int count) {
        int n = 1;
        while (n < count && n < COEFFICIENTS) {
            n *= 2;
        }
        return n;
    }

    /** The product's coefficients are at most n, so those of a and b from n on are 0 as well. */
    private void multiplyRows(long[] to, long[] a, long[] b, int n) {
        System.arraycopy(a, 0, left, 0, n);
        System.arraycopy(b, 0, right, 0, n);
        turnForward(left, n);
        turnForward(right, n);
        for (int k = 0; k < n; k++) {
            left[k] = left[k] * right[k] % prime;
        }
        turnBackward(left, n);
        Arrays.fill(to, 0L);
        System.arraycopy(left, 0, to, 0, n);
    }

    // ---- words

    /**
     * Into answerWords; both sizes together are at most 240. A product of two words with two words
     * added is at most 2 to the 64 less 1: the sign bit counts as one more bit, and nothing is lost.
     */
    private void multiplyWords(long[] a, int sizeA, long[] b, int sizeB) {
        Arrays.fill(answerWords, 0L);
        for (int i = 0; i < sizeA; i++) {
            long carry = 0;
            for (int j = 0; j < sizeB; j++) {
                long value = a[i] * b[j] + answerWords[i + j] + carry;
                answerWords[i + j] = value & WORD_MASK;
                carry = value >>> WORD_BITS;
            }
            answerWords[i + sizeB] = carry;
        }
    }

    /** Into answerWords: what is left to carry above the last word. */
    private long addWords(long[] a, long[] b) {
        long carry = 0;
        for (int k = 0; k < WORDS; k++) {
            long value = a[k] + b[k] + carry;
            answerWords[k] = value & WORD_MASK;
            carry = value >>> WORD_BITS;
        }
        return carry;
    }
}
