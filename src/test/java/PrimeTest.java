import java.math.BigInteger;

/** Promises 1 to 5: a new object, field, times, power, inverse. */
public final class PrimeTest {
    private static final Class<IllegalArgumentException> ILLEGAL = IllegalArgumentException.class;
    private static final long FIRST = 998244353L;

    public static void main(String[] args) {
        newObject();
        fieldAnswersLeastRoot();
        fieldRefuses();
        fieldClearsRowsAlone();
        refusedFieldChangesNothing();
        timesTakesAnyNumbers();
        powerTakesAnyNumbers();
        inverseTakesAnyNumbers();
        Checks.end();
    }

    private static void newObject() {
        WheelProducts x = new WheelProducts();
        Checks.same("1: NONE", WheelProducts.NONE, -1);
        Checks.same("1: first prime, -1", x.times(-1, 1), FIRST - 1);
        Checks.same("1: first prime, p", x.times(FIRST, 1), 0);
        for (int i = 0; i < 6; i++) {
            Checks.same("1: length " + i, x.length(i), 0);
            Checks.same("1: size " + i, x.size(i), 0);
            Checks.same("1: get " + i, x.get(i, 511), 0);
            Checks.same("1: wordAt " + i, x.wordAt(i, 239), 0);
        }
        x.put(0, 1, 1);
        x.turn(0, 4, false);
        Checks.same("1: a turn with the first root", x.get(0, 1), new WheelProducts().power(3, (FIRST - 1) / 4));
    }

    private static void fieldAnswersLeastRoot() {
        long[][] rootOf = {{7681, 17}, {12289, 11}, {FIRST, 3}, {2130706433L, 3}, {2013265921L, 31},
            {469762049L, 3}, {167772161L, 3}, {754974721L, 11}, {2113929217L, 5}, {1811939329L, 13}};
        for (long[] pair : rootOf) {
            WheelProducts x = new WheelProducts();
            Checks.same("2: field(" + pair[0] + ")", x.field(pair[0]), pair[1]);
            Checks.same("2: prime " + pair[0] + " is used", x.times(-1, 1), pair[0] - 1);
        }
        WheelProducts x = new WheelProducts();
        for (long p = 1 + 512; p < 500000; p += 512) {
            compareField(x, p);
        }
        for (long p = (1L << 31) - 511; p > (1L << 31) - 100000; p -= 512) {
            compareField(x, p);
        }
    }

    private static void compareField(WheelProducts x, long p) {
        if (isPrime(p)) {
            Checks.same("2: field(" + p + ")", x.field(p), slowRoot(p));
        } else {
            Checks.thrown("2: field(" + p + ")", ILLEGAL, () -> x.field(p));
        }
    }

    private static boolean isPrime(long p) {
        for (long d = 2; d * d <= p; d++) {
            if (p % d == 0) {
                return false;
            }
        }
        return p > 1;
    }

    /** By its meaning: g is a root if no divisor d of p - 1 below it has g to the power d as 1. */
    private static long slowRoot(long p) {
        for (long g = 1;; g++) {
            boolean root = true;
            for (long d = 1; d * d <= p - 1 && root; d++) {
                if ((p - 1) % d == 0) {
                    root = !(comesToOne(g, d, p) || comesToOne(g, (p - 1) / d, p));
                }
            }
            if (root) {
                return g;
            }
        }
    }

    private static boolean comesToOne(long g, long d, long p) {
        BigInteger modulus = BigInteger.valueOf(p);
        return d < p - 1 && BigInteger.valueOf(g).modPow(BigInteger.valueOf(d), modulus)
            .equals(BigInteger.ONE);
    }

    private static void fieldRefuses() {
        long[] none = {
            Long.MIN_VALUE, Long.MIN_VALUE + 1, -7681, -511, -1, 0, 1, 2, 3, 257, 512, 513, 7680, 7682,
            // 1 more than a multiple of 256 but not of 512, prime
            769, 3329,
            // p - 1 is no multiple; from 2 to the 31 on, three of them primes; fits only when cut to 32 bits
            2147483647L, 2147483648L, 2147483649L, 2147484161L, 2281701377L, 3221225473L, 4294967296L + 7681, Long.MAX_VALUE,
            7681L * 12289, 7681L * 7681,
            // not prime, yet they answer Fermat's test as primes do until their least divisor
            12801, 3224065, 14676481, 23382529, 214852609, 939947009, 1200778753, 2097317377L,
            // not prime, yet 2 answers Fermat's test
            130561, 348161, 852481, 1896961, 2327041, 3985921};
        for (long p : none) {
            WheelProducts x = new WheelProducts();
            Checks.thrown("2: field(" + p + ")", ILLEGAL, () -> x.field(p));
            Checks.same("2: prime after field(" + p + ")", x.times(-1, 1), FIRST - 1);
        }
    }

    private static void fieldClearsRowsAlone() {
        for (long p : new long[] {FIRST, 7681}) {
            WheelProducts x = new WheelProducts();
            for (int i = 0; i < 6; i++) {
                x.put(i, 511, 5 + i);
                x.put(i, 0, 7);
                x.word(i, 3, 9 + i);
            }
            x.field(p);
            for (int i = 0; i < 6; i++) {
                Checks.same("2: length after field", x.length(i), 0);
                Checks.same("2: get after field", x.get(i, 0), 0);
                Checks.same("2: wordAt after field", x.wordAt(i, 3), 9 + i);
                Checks.same("2: size after field", x.size(i), 4);
            }
        }
    }

    private static void refusedFieldChangesNothing() {
        WheelProducts x = new WheelProducts();
        x.field(7681);
        x.put(2, 1, 1);
        for (long p : new long[] {12801, 7680, -1, 2147483647L, 130561}) {
            Checks.thrown("2: field(" + p + ")", ILLEGAL, () -> x.field(p));
        }
        Checks.same("2: the row stays", x.get(2, 1), 1);
        Checks.same("2: the prime stays", x.times(-1, 1), 7680);
        x.turn(2, 512, false);
        Checks.same("2: the root stays", x.get(2, 1), x.power(17, 7680 / 512));
    }

    private static void timesTakesAnyNumbers() {
        WheelProducts x = new WheelProducts();
        long[] given = {0, 1, -1, 2, FIRST, FIRST - 1, -FIRST, 4294967296L, Long.MAX_VALUE, Long.MIN_VALUE};
        for (long p : new long[] {FIRST, 7681, 2147483137L}) {
            x.field(p);
            for (long a : given) {
                for (long b : given) {
                    long due = big(a).multiply(big(b)).mod(big(p)).longValue();
                    Checks.same("3: times(" + a + ", " + b + ")", x.times(a, b), due);
                }
            }
        }
    }

    private static void powerTakesAnyNumbers() {
        WheelProducts x = new WheelProducts();
        long[] given = {0, 1, -1, 2, 3, 7681, -7681, Long.MAX_VALUE, Long.MIN_VALUE};
        long[] powers = {0, 1, 2, 3, 511, 7680, 7681, 1L << 32, Long.MAX_VALUE - 1, Long.MAX_VALUE};
        for (long p : new long[] {FIRST, 7681, 2147483137L}) {
            x.field(p);
            for (long a : given) {
                for (long e : powers) {
                    long due = big(a).mod(big(p)).modPow(big(e), big(p)).longValue();
                    Checks.same("4: power(" + a + ", " + e + ")", x.power(a, e), due);
                }
                Checks.thrown("4: power -1", ILLEGAL, () -> x.power(a, -1));
                Checks.thrown("4: least power", ILLEGAL, () -> x.power(a, Long.MIN_VALUE));
            }
        }
    }

    private static void inverseTakesAnyNumbers() {
        WheelProducts x = new WheelProducts();
        for (long p : new long[] {FIRST, 7681, 2147483137L}) {
            x.field(p);
            for (long a : new long[] {1, -1, 2, p - 1, p + 1, -p - 2, 12345, Long.MAX_VALUE, Long.MIN_VALUE}) {
                long due = big(a).modInverse(big(p)).longValue();
                Checks.same("5: inverse(" + a + ")", x.inverse(a), due);
            }
            for (long a : new long[] {0, p, -p, p * p, p * 1000}) {
                Checks.thrown("5: inverse(" + a + ")", ILLEGAL, () -> x.inverse(a));
            }
        }
    }

    private static BigInteger big(long v) {
        return BigInteger.valueOf(v);
    }
}
