import java.math.BigInteger;

/** "What it is", part 1 of "Terms", and promises 1 to 5: the prime, a new object, field, times, power, inverse. */
public final class PrimeTest {
    private static final long FIRST = Setups.FIRST;
    private static final long TWO_TO_THE_31 = 1L << 31;

    public static void main(String[] args) {
        Checks.sentence("What it is: for at most 512 calls", PrimeTest::the512thCallHolds);
        Checks.sentence("Terms 1: at first it is 998244353", PrimeTest::atFirst);
        Checks.sentence("Terms 1: p is below 2 to the 31", PrimeTest::belowTwoToThe31);
        Checks.sentence("Terms 1: p - 1 a multiple of 512", PrimeTest::multipleOf512);
        Checks.sentence("Terms 1: a PRIME", PrimeTest::aPrime);
        Checks.sentence("Terms 1: ROOT is the least number", PrimeTest::leastRoot);
        Checks.sentence("Terms 1: ROOT, powers are all numbers 1 .. p - 1", PrimeTest::powersAreAllNumbers);
        Checks.sentence("Terms 1: told as 0 .. p - 1", PrimeTest::toldAsRests);
        Checks.sentence("Terms 1: what is given may be any", PrimeTest::givenMayBeAny);
        Checks.sentence("Promise 1: the first prime; rows and naturals are 0", PrimeTest::newObject);
        Checks.sentence("Promise 1: each object has its own", PrimeTest::newObjectsAreApart);
        Checks.sentence("Promise 2: another prime: its root; all rows are 0 then", PrimeTest::fieldOfAnother);
        Checks.sentence("Promise 2: or the same one", PrimeTest::fieldOfTheSame);
        Checks.sentence("Promise 2: naturals stay", PrimeTest::fieldLeavesNaturals);
        Checks.sentence("Promise 2: refused: it is none", PrimeTest::fieldRefusesWhatIsNone);
        Checks.sentence("Promise 2: refused: not as told", PrimeTest::fieldRefusesWhatIsNotAsTold);
        Checks.sentence("Promise 3: times, modulo p", PrimeTest::timesAnyNumbers);
        Checks.sentence("Promise 3: times at the edges", PrimeTest::timesAtTheEdges);
        Checks.sentence("Promise 4: power, modulo p", PrimeTest::powerOfAnyNumbers);
        Checks.sentence("Promise 4: anything to the power 0 is 1", PrimeTest::powerZero);
        Checks.sentence("Promise 4: the power itself is not told modulo p", PrimeTest::greatPowers);
        Checks.sentence("Promise 4: refused: below 0", PrimeTest::powerRefuses);
        Checks.sentence("Promise 5: inverse", PrimeTest::inverseOfAnyNumbers);
        Checks.sentence("Promise 5: the inverse of each number", PrimeTest::inverseOfEach);
        Checks.sentence("Promise 5: refused: there is none", PrimeTest::inverseRefuses);
        Checks.end();
    }

    private static BigInteger big(long v) {
        return BigInteger.valueOf(v);
    }

    private static void the512thCallHolds() {
        String[] names = {"field", "times", "power", "inverse", "put", "get", "length", "turn", "product", "at",
            "word", "wordAt", "size", "multiply", "sum"};
        for (String name : names) {
            Wheel x = new Wheel();
            Model model = new Model();
            for (int call = 1; call < 512; call++) {
                earlierCall(x, call);
                earlierCall(model, call);
            }
            long a = name.equals("field") ? 12289 : 1;
            Checks.same("512th call, " + name, x.call(name, a, 2, 1), model.call(name, a, 2, 1));
            Checks.same("calls left", x.callsLeft(), 0);
        }
    }

    private static void earlierCall(Machine x, int call) {
        switch (call % 4) {
            case 0: x.put(call % 6, call % 50, call); break;
            case 1: x.word(call % 6, call % 50, -call); break;
            case 2: Checks.thrownBy(() -> x.get(6, call)); break;
            default: x.field(call < 100 ? 7681 : 2147483137L); break;
        }
    }

    private static void atFirst() {
        Wheel x = new Wheel();
        Checks.same("p - 1", x.times(998244352L, 1), 998244352L);
        Checks.same("p", x.times(998244353L, 1), 0);
        Checks.same("p + 1", x.times(998244354L, 1), 1);
        x.put(0, 1, 1);
        x.turn(0, 512, false);
        long due = big(3).modPow(big((FIRST - 1) / 512), big(FIRST)).longValue();
        Checks.same("a turn with its root 3", x.get(0, 1), due);
        Checks.same("field(998244353)", new Wheel().field(998244353L), 3);
    }

    private static void takes(long p, long root) {
        Wheel x = new Wheel();
        Checks.same("field(" + p + ")", x.field(p), root);
        Checks.same("the prime is " + p, x.times(-1, 1) + 1, p);
    }

    private static void refuses(long p) {
        Wheel x = new Wheel();
        Checks.thrown("field(" + p + ")", Checks.ILLEGAL, () -> x.field(p));
        Checks.same("the prime after field(" + p + ")", x.times(-1, 1) + 1, FIRST);
    }

    private static void belowTwoToThe31() {
        takes(TWO_TO_THE_31 - 511, 10);
        refuses(TWO_TO_THE_31);
        refuses(TWO_TO_THE_31 + 1);
        // Primes that are 1 more than a multiple of 512: the first ones beyond, and the greatest long.
        refuses(2147484161L);
        refuses(2281701377L);
        refuses(3221225473L);
        refuses(9223372036854758401L);
        // Their lowest 32 bits are a good prime; the first two are primes themselves.
        refuses(90194320897L);
        refuses(91192557569L);
        refuses((1L << 32) + 7681);
        refuses(Long.MIN_VALUE + 7681);
        refuses(Long.MAX_VALUE);
    }

    private static void multipleOf512() {
        takes(7681, 17);
        takes(65537, 3);
        takes(2130706433L, 3);
        // Primes that are 1 more than a multiple of 256, but not of 512: the least, some, the greatest.
        for (long p : new long[] {257, 769, 3329, 7937, 9473, 2147477249L}) {
            refuses(p);
        }
        for (long p : new long[] {2, 3, 5, 17, 97, 193, 641, 7673, 7687, 998244341L, 2147483647L}) {
            refuses(p);
        }
    }

    private static void aPrime() {
        // 1 more than a multiple of 512, all below the least prime among them.
        for (long p = -2047; p < 7681; p += 512) {
            refuses(p);
        }
        for (long p : new long[] {0, -1, -7681, -FIRST, Long.MIN_VALUE, Long.MIN_VALUE + 1}) {
            refuses(p);
        }
        // Squares and products of good primes, and the greatest number that is none.
        for (long p : new long[] {7681L * 7681, 12289L * 12289, 7681L * 12289, 7681L * 10753, 2147482625L}) {
            refuses(p);
        }
        // Fermat's test takes these for primes with every base that shares no divisor with them.
        for (long p : new long[] {3224065, 14676481, 23382529, 214852609, 939947009, 1200778753, 2097317377L}) {
            refuses(p);
        }
        // Fermat's test takes these for primes with base 2.
        for (long p : new long[] {12801, 130561, 348161, 852481, 1896961, 2327041, 3985921}) {
            refuses(p);
        }
        for (long p = TWO_TO_THE_31 - 511; p > TWO_TO_THE_31 - 60000; p -= 512) {
            asTheModel(p);
        }
        for (long p = 7681; p < 120000; p += 512) {
            asTheModel(p);
        }
    }

    private static void asTheModel(long p) {
        long[] due = new long[1];
        Class<?> dueThrown = Checks.thrownBy(() -> due[0] = new Model().field(p));
        if (dueThrown == null) {
            takes(p, due[0]);
        } else {
            refuses(p);
        }
    }

    private static void leastRoot() {
        long[][] rootOf = {{12289, 11}, {469762049L, 3}, {167772161L, 3}, {754974721L, 11}, {2113929217L, 5},
            {2013265921L, 31}, {1811939329L, 13},
            // The least root is no prime, so none of the primes that divide it is a root.
            {340481, 6}, {147457, 10}, {176641, 14}, {32257, 15}, {838657, 20}, {1644690433L, 40},
            // Only the greatest prime that divides p - 1 tells that a lesser number is none; the last two
            // p - 1 have seven such primes, the most that there are.
            {232961, 12}, {4523521, 23}, {23493121, 26}, {325839361, 37}, {130690561L, 23},
            // The greatest least roots that there are.
            {1289871361L, 103}, {338764801L, 104}, {152076289L, 106}};
        for (long[] pair : rootOf) {
            takes(pair[0], pair[1]);
        }
    }

    private static void powersAreAllNumbers() {
        for (long p : new long[] {7681, 10753, 11777, 12289, 13313, 15361, 18433, 32257, 65537, 96769, 115201}) {
            long root = new Wheel().field(p);
            Checks.same("powers of " + root + " modulo " + p, differentPowers(root, p), p - 1);
            for (long g = 1; g < root; g++) {
                Checks.same("all powers of " + g + " modulo " + p, differentPowers(g, p) == p - 1, false);
            }
        }
    }

    private static long differentPowers(long g, long p) {
        boolean[] met = new boolean[(int) p];
        long count = 0;
        for (long value = g; !met[(int) value]; value = value * g % p) {
            met[(int) value] = true;
            count++;
        }
        return count;
    }

    private static void toldAsRests() {
        for (long p : Setups.PRIMES) {
            Wheel x = new Wheel();
            x.field(p);
            Checks.same("0, times", x.times(0, -1), 0);
            Checks.same("p - 1, times", x.times(p - 1, 1), p - 1);
            Checks.same("p - 1, power", x.power(p - 1, 3), p - 1);
            Checks.same("p - 1, inverse", x.inverse(p - 1), p - 1);
            x.put(0, 0, p - 1);
            Checks.same("p - 1, get", x.get(0, 0), p - 1);
            Checks.same("p - 1, at", x.at(0, 0), p - 1);
            x.turn(0, 1, true);
            Checks.same("p - 1, turn", x.get(0, 0), p - 1);
            x.put(1, 0, 1);
            x.product(0, 0, 1);
            Checks.same("p - 1, product", x.get(0, 0), p - 1);
        }
    }

    private static void givenMayBeAny() {
        for (long p : Setups.PRIMES) {
            Wheel x = new Wheel();
            x.field(p);
            for (long given : anyNumbers(p)) {
                long rest = big(given).mod(big(p)).longValue();
                Checks.same("times(" + given + ", 1)", x.times(given, 1), rest);
                Checks.same("times(1, " + given + ")", x.times(1, given), rest);
                Checks.same("power(" + given + ", 1)", x.power(given, 1), rest);
                if (rest != 0) {
                    Checks.same("inverse(" + given + ")", x.inverse(given), x.inverse(rest));
                }
                x.put(0, 1, given);
                Checks.same("put of " + given, x.get(0, 1), rest);
                x.put(0, 1, 1);
                Checks.same("at " + given, x.at(0, given), rest);
            }
        }
    }

    private static long[] anyNumbers(long p) {
        return new long[] {0, 1, -1, 2, -2, p - 1, p, p + 1, 1 - p, -p, -p - 1, 2 * p - 1, 2 * p, p * p - 1, p * p,
            p * p + 1, -p * p, TWO_TO_THE_31, -TWO_TO_THE_31, 1L << 32, -(1L << 32), Long.MAX_VALUE,
            Long.MAX_VALUE - 1, Long.MIN_VALUE, Long.MIN_VALUE + 1};
    }

    private static void newObject() {
        State state = State.after(Setups::nothing);
        Checks.same("the prime", state.prime(), FIRST);
        for (int i = 0; i < 6; i++) {
            for (int k = 0; k < 512; k++) {
                Checks.same("row " + i + ", coefficient " + k, state.coefficient(i, k), 0);
            }
            for (int k = 0; k < 240; k++) {
                Checks.same("natural " + i + ", word " + k, state.word(i, k), 0);
            }
        }
        Checks.state("a new object", Setups::nothing);
        Checks.same("NONE", WheelProducts.NONE, -1);
    }

    private static void newObjectsAreApart() {
        Wheel other = new Wheel();
        Setups.mixed(other);
        Checks.state("a new object beside another", Setups::nothing);
        Wheel x = new Wheel();
        x.field(7681);
        x.put(0, 0, 1);
        x.word(0, 0, 2);
        Checks.same("the other's prime", other.times(-1, 1), 2013265920L);
        Checks.same("the other's row", other.length(0), 512);
        Checks.same("the other's natural", other.wordAt(0, 0), 4294967295L);
    }

    private static void fullRows(Machine x) {
        for (int row = 0; row < 6; row++) {
            Setups.dense(x, row, 512, 3 + row);
        }
    }

    private static void fieldOfAnother() {
        State full = State.after(PrimeTest::fullRows);
        Wheel x = new Wheel();
        fullRows(x);
        Checks.same("field(7681)", x.field(7681), 17);
        Checks.same("its p - 1", x.times(-1, 1), 7680);
        State empty = State.after(y -> {
            fullRows(y);
            y.field(7681);
        });
        for (int row = 0; row < 6; row++) {
            for (int k = 0; k < 512; k++) {
                Checks.same("row " + row + ", coefficient " + k + " is 0 before", full.coefficient(row, k) == 0, false);
                Checks.same("row " + row + ", coefficient " + k + " after", empty.coefficient(row, k), 0);
            }
        }
        Checks.state("full rows, then another prime", y -> {
            fullRows(y);
            y.field(Setups.GREATEST);
        });
        Checks.state("another prime, and back to the first", y -> {
            y.field(7681);
            fullRows(y);
            y.field(FIRST);
        });
        Checks.same("field(998244353) after another", x.field(FIRST), 3);
    }

    private static void fieldOfTheSame() {
        Checks.state("the first prime once more", y -> {
            fullRows(y);
            y.field(FIRST);
        });
        Checks.state("another prime twice", y -> {
            y.field(7681);
            fullRows(y);
            y.field(7681);
        });
        Wheel x = new Wheel();
        x.put(5, 511, 4);
        x.put(0, 0, 4);
        Checks.same("field(998244353)", x.field(FIRST), 3);
        Checks.same("length of row 5", x.length(5), 0);
        Checks.same("coefficient 0 of row 0", x.get(0, 0), 0);
        Checks.same("field(7681)", x.field(7681), 17);
        Checks.same("field(7681) again", x.field(7681), 17);
    }

    private static void fieldLeavesNaturals() {
        State before = State.after(Setups::mixed);
        for (long p : new long[] {2013265921L, 7681}) {
            State after = State.after(y -> {
                Setups.mixed(y);
                y.field(p);
            });
            for (int natural = 0; natural < 6; natural++) {
                for (int k = 0; k < 240; k++) {
                    String what = "natural " + natural + ", word " + k + " after field(" + p + ")";
                    Checks.same(what, after.word(natural, k), before.word(natural, k));
                }
            }
        }
    }

    private static void fieldRefusesWhatIsNone() {
        for (long p : new long[] {Long.MIN_VALUE, -7681, -511, 0, 1, 513, 7169, 12801, 130561, 7681L * 7681,
            2147482625L}) {
            Checks.refused("field(" + p + ")", Checks.ILLEGAL, Setups::mixed, x -> x.field(p));
            Checks.refused("field(" + p + ")", Checks.ILLEGAL, Setups::nothing, x -> x.field(p));
        }
    }

    private static void fieldRefusesWhatIsNotAsTold() {
        for (long p : new long[] {2, 257, 769, 7680, 7682, 2147477249L, 2147483647L, 2147483649L, 2147484161L,
            90194320897L, Long.MAX_VALUE}) {
            Checks.refused("field(" + p + ")", Checks.ILLEGAL, Setups::mixed, x -> x.field(p));
            Checks.refused("field(" + p + ")", Checks.ILLEGAL, Setups::nothing, x -> x.field(p));
        }
    }

    private static void timesAnyNumbers() {
        for (long p : Setups.PRIMES) {
            for (long a : anyNumbers(p)) {
                Wheel x = new Wheel();
                x.field(p);
                for (long b : anyNumbers(p)) {
                    long due = big(a).multiply(big(b)).mod(big(p)).longValue();
                    Checks.same("times(" + a + ", " + b + ")", x.times(a, b), due);
                }
            }
        }
        Checks.state("times changes nothing", x -> {
            Setups.mixed(x);
            x.times(Long.MIN_VALUE, Long.MAX_VALUE);
        });
    }

    private static void timesAtTheEdges() {
        Wheel x = new Wheel();
        Checks.same("(p - 1) times (p - 1)", x.times(FIRST - 1, FIRST - 1), 1);
        Checks.same("-1 times -1", x.times(-1, -1), 1);
        Checks.same("-1 times 1", x.times(-1, 1), FIRST - 1);
        Checks.same("0 times p - 1", x.times(0, FIRST - 1), 0);
        Checks.same("p times 5", x.times(FIRST, 5), 0);
        Checks.same("5 times -p", x.times(5, -FIRST), 0);
        x.field(Setups.GREATEST);
        Checks.same("greatest p: (p - 1) times (p - 1)", x.times(2147483136L, 2147483136L), 1);
        Checks.same("greatest p: -2 times -2", x.times(-2, -2), 4);
        Checks.same("greatest p: 2 to the 16 times 2 to the 15", x.times(65536, 32768), 511);
    }

    private static void powerOfAnyNumbers() {
        for (long p : Setups.PRIMES) {
            long[] powers = {0, 1, 2, 3, 511, 512, p - 2, p - 1, p, p + 1};
            for (long a : anyNumbers(p)) {
                Wheel x = new Wheel();
                x.field(p);
                for (long e : powers) {
                    long due = big(a).mod(big(p)).modPow(big(e), big(p)).longValue();
                    Checks.same("power(" + a + ", " + e + ")", x.power(a, e), due);
                }
            }
        }
        Checks.state("power changes nothing", x -> {
            Setups.mixed(x);
            x.power(Long.MIN_VALUE, Long.MAX_VALUE);
        });
    }

    private static void powerZero() {
        for (long p : Setups.PRIMES) {
            Wheel x = new Wheel();
            x.field(p);
            for (long a : anyNumbers(p)) {
                Checks.same("power(" + a + ", 0)", x.power(a, 0), 1);
            }
            Checks.same("power(0, 1)", x.power(0, 1), 0);
            Checks.same("power(p, 1)", x.power(p, 1), 0);
        }
    }

    private static void greatPowers() {
        for (long p : Setups.PRIMES) {
            Wheel x = new Wheel();
            x.field(p);
            Checks.same("power(0, p)", x.power(0, p), 0);
            Checks.same("power(0, p - 1)", x.power(0, p - 1), 0);
            Checks.same("power(3, p - 1)", x.power(3, p - 1), 1);
            Checks.same("power(3, p)", x.power(3, p), 3);
            for (long e : new long[] {TWO_TO_THE_31 - 1, TWO_TO_THE_31, 1L << 32, (1L << 32) + 1, 1L << 62,
                Long.MAX_VALUE - 1, Long.MAX_VALUE}) {
                for (long a : new long[] {0, 1, -1, 3, p - 2, Long.MAX_VALUE, Long.MIN_VALUE}) {
                    long due = big(a).mod(big(p)).modPow(big(e), big(p)).longValue();
                    Checks.same("power(" + a + ", " + e + ")", x.power(a, e), due);
                }
            }
        }
    }

    private static void powerRefuses() {
        for (long e : new long[] {-1, -2, 1 - FIRST, -FIRST, -TWO_TO_THE_31, -(1L << 32), Long.MIN_VALUE + 1,
            Long.MIN_VALUE}) {
            for (long a : new long[] {0, 1, -1, 5, FIRST, Long.MIN_VALUE}) {
                Checks.thrown("power(" + a + ", " + e + ")", Checks.ILLEGAL, () -> new Wheel().power(a, e));
            }
            Checks.refused("power(5, " + e + ")", Checks.ILLEGAL, Setups::mixed, x -> x.power(5, e));
        }
    }

    private static void inverseOfAnyNumbers() {
        for (long p : Setups.PRIMES) {
            Wheel x = new Wheel();
            x.field(p);
            Checks.same("inverse(1)", x.inverse(1), 1);
            Checks.same("inverse(2)", x.inverse(2), (p + 1) / 2);
            Checks.same("inverse(-1)", x.inverse(-1), p - 1);
            Checks.same("inverse(p - 1)", x.inverse(p - 1), p - 1);
            Checks.same("inverse(p + 1)", x.inverse(p + 1), 1);
            Checks.same("inverse(-p - 1)", x.inverse(-p - 1), p - 1);
            for (long a : anyNumbers(p)) {
                if (a % p != 0) {
                    Checks.same("inverse(" + a + ")", x.inverse(a), big(a).modInverse(big(p)).longValue());
                }
            }
        }
        Checks.state("inverse changes nothing", x -> {
            Setups.mixed(x);
            x.inverse(Long.MIN_VALUE);
        });
    }

    private static void inverseOfEach() {
        Wheel x = new Wheel();
        for (long a = 1; a < 7681; a++) {
            if (x.callsLeft() < 2) {
                x = new Wheel();
            }
            if (x.callsLeft() == 512) {
                x.field(7681);
            }
            Checks.same("inverse(" + a + ") times " + a, x.inverse(a) * a % 7681, 1);
        }
    }

    private static void inverseRefuses() {
        for (long p : Setups.PRIMES) {
            long greatest = Long.MAX_VALUE - Long.MAX_VALUE % p;
            for (long a : new long[] {0, p, -p, 2 * p, -2 * p, p * p, greatest, -greatest}) {
                Checks.refused("inverse(" + a + ")", Checks.ILLEGAL, x -> x.field(p), x -> x.inverse(a));
            }
        }
        Checks.refused("inverse(0)", Checks.ILLEGAL, Setups::mixed, x -> x.inverse(0));
    }
}
