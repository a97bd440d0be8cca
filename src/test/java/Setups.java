import java.math.BigInteger;

/** Rows and naturals that tests begin with, made in few calls. */
final class Setups {
    static final long FIRST = 998244353L;
    static final long LEAST = 7681L;
    static final long GREATEST = 2147483137L;
    static final long[] PRIMES = {FIRST, LEAST, GREATEST};
    static final int[] NO_INDEX = {Integer.MIN_VALUE, -6, -1, 6, 7, 12, 256, 65536, Integer.MAX_VALUE};

    private Setups() {
    }

    static void nothing(Machine x) {
    }

    /** Coefficients below n (at least 4) that look mixed, the last one not 0; four calls. */
    static void dense(Machine x, int row, int n, long seed) {
        x.put(row, 0, seed);
        x.put(row, 1, -seed * seed - 1);
        x.put(row, n - 1, seed + 2);
        x.turn(row, n, false);
    }

    /** Empty, short and full rows and naturals, under a prime that is not the first one. */
    static void mixed(Machine x) {
        x.field(2013265921L);
        dense(x, 0, 512, 5);
        x.put(1, 0, 3);
        x.put(1, 1, -1);
        dense(x, 2, 256, 9);
        x.put(2, 256, 4);
        x.put(3, 0, 6);
        dense(x, 4, 256, 11);
        number(x, 0, allBits(240));
        x.word(1, 0, 1);
        x.word(2, 120, 1);
        x.word(3, 119, 1);
        x.word(3, 0, 7);
        x.word(4, 239, 1L << 31);
    }

    /** Into a natural that is 0; words that are 0 take no call. */
    static void number(Machine x, int natural, BigInteger value) {
        for (int k = 0; 32 * k < value.bitLength(); k++) {
            if (value.shiftRight(32 * k).intValue() != 0) {
                x.word(natural, k, value.shiftRight(32 * k).longValue());
            }
        }
    }

    static BigInteger allBits(int words) {
        return BigInteger.ONE.shiftLeft(32 * words).subtract(BigInteger.ONE);
    }

    /** The least number of so many words. */
    static BigInteger least(int words) {
        return BigInteger.ONE.shiftLeft(32 * (words - 1));
    }

    /** A number of so many words that looks mixed. */
    static BigInteger mixedBits(int words, int seed) {
        return new BigInteger(32 * words - 1, new java.util.Random(seed)).setBit(32 * words - 1 - seed % 32);
    }

    static int words(BigInteger value) {
        return (value.bitLength() + 31) / 32;
    }
}
