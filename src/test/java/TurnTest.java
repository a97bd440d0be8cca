import java.math.BigInteger;

/** "TO TURN" in part 2 of "Terms", and promise 9: turn. */
public final class TurnTest {
    private static final long FIRST = Setups.FIRST;

    public static void main(String[] args) {
        Checks.sentence("Terms 2: TO TURN by n (1, 2, 4, .. 512)", TurnTest::byEachN);
        Checks.sentence("Terms 2: w is the root to the power (p - 1) / n", TurnTest::powersOfW);
        Checks.sentence("Terms 2: the sums of all a(i), i below n", TurnTest::sumsBelowN);
        Checks.sentence("Terms 2: sums are told modulo p", TurnTest::sumsWrap);
        Checks.sentence("Terms 2: those from n on stay", TurnTest::fromNOnStay);
        Checks.sentence("Terms 2: an empty row", TurnTest::emptyRow);
        Checks.sentence("Terms 2: BACK", TurnTest::backByEachN);
        Checks.sentence("Terms 2: BACK, so that turning them gives what they were", TurnTest::backThenTurned);
        Checks.sentence("Promise 9: by 1, nothing changes", TurnTest::byOne);
        Checks.sentence("Promise 9: other rows and naturals stay", TurnTest::othersStay);
        Checks.sentence("Promise 9: after another prime, by its root", TurnTest::byTheNewRoot);
        Checks.sentence("Promise 9: refused: no such row", TurnTest::refusesRows);
        Checks.sentence("Promise 9: refused: n is none of these", TurnTest::refusesN);
        Checks.sentence("Promise 9: refused: the row stands before n", TurnTest::rowStandsFirst);
        Checks.end();
    }

    private static void byEachN() {
        for (long p : Setups.PRIMES) {
            for (int n = 1; n <= 512; n *= 2) {
                int by = n;
                Checks.state("a full row modulo " + p + ", turned by " + n, x -> {
                    x.field(p);
                    Setups.dense(x, 3, 512, 2 + by);
                    x.turn(3, by, false);
                });
            }
        }
    }

    /** A row whose coefficient 1 alone is 1 becomes the powers 0 .. n - 1 of w. */
    private static void powersOfW() {
        for (long p : Setups.PRIMES) {
            long root = new Wheel().field(p);
            for (int n = 2; n <= 512; n *= 2) {
                BigInteger modulus = BigInteger.valueOf(p);
                BigInteger w = BigInteger.valueOf(root).modPow(BigInteger.valueOf((p - 1) / n), modulus);
                Wheel x = new Wheel();
                x.field(p);
                x.put(0, 1, 1);
                x.turn(0, n, false);
                for (int j = 0; j < n && x.callsLeft() > 0; j++) {
                    long due = w.modPow(BigInteger.valueOf(j), modulus).longValue();
                    Checks.same("by " + n + ", coefficient " + j, x.get(0, j), due);
                }
            }
        }
    }

    private static void sumsBelowN() {
        for (int n = 1; n <= 512; n *= 2) {
            Wheel x = new Wheel();
            x.put(0, 0, 5);
            x.turn(0, n, false);
            Checks.same("5 at 0 by " + n + ", first", x.get(0, 0), 5);
            Checks.same("5 at 0 by " + n + ", last", x.get(0, n - 1), 5);
            Checks.same("5 at 0 by " + n + ", length", x.length(0), n);
            x.turn(0, n, false);
            Checks.same("5 everywhere by " + n + ", first", x.get(0, 0), 5 * n);
            Checks.same("5 everywhere by " + n + ", length", x.length(0), 1);
            x.put(1, n - 1, 1);
            x.turn(1, n, false);
            Checks.same("the last below " + n + ", first", x.get(1, 0), 1);
            if (n > 1) {
                long w = x.power(3, (FIRST - 1) / n);
                Checks.same("the last below " + n + ", second", x.get(1, 1), x.power(w, n - 1));
                Checks.same("the last below " + n + ", last", x.get(1, n - 1), x.power(w, (n - 1) * (n - 1)));
            }
            if (n < 512) {
                x.put(2, n, 1);
                x.turn(2, n, false);
                Checks.same("the first not below " + n + ", first", x.get(2, 0), 0);
                Checks.same("the first not below " + n + ", last", x.get(2, n - 1), 0);
                Checks.same("the first not below " + n + " itself", x.get(2, n), 1);
            }
        }
    }

    /** With 1 and p - 1 a sum is p itself; with p - 1 everywhere each is as great as it can be. */
    private static void sumsWrap() {
        for (long p : Setups.PRIMES) {
            for (boolean back : new boolean[] {false, true}) {
                Wheel y = new Wheel();
                y.field(p);
                y.put(0, 0, 1);
                y.put(0, 1, -1);
                y.turn(0, 2, back);
                Checks.same("1 and p - 1 modulo " + p + ", the sum", y.get(0, 0), 0);
                Checks.same("1 and p - 1 modulo " + p + ", the difference", y.get(0, 1), back ? 1 : 2);
            }
            for (int n = 1; n <= 256; n *= 2) {
                Wheel x = new Wheel();
                x.field(p);
                for (int k = 0; k < n; k++) {
                    x.put(0, k, p - 1);
                }
                x.turn(0, n, false);
                Checks.same("by " + n + " modulo " + p + ", first", x.get(0, 0), p - n);
                Checks.same("by " + n + " modulo " + p + ", length", x.length(0), 1);
            }
            Checks.state("p - 1 everywhere modulo " + p, x -> {
                x.field(p);
                x.put(0, 0, -1);
                x.turn(0, 512, false);
                x.turn(0, 512, false);
            });
        }
    }

    private static void fromNOnStay() {
        for (int n = 1; n < 512; n *= 2) {
            Wheel x = new Wheel();
            for (int k = 511; k >= 512 - 80; k--) {
                x.put(0, k, k);
            }
            x.put(0, n, 1000 + n);
            x.put(0, n - 1, 7);
            x.turn(0, n, false);
            Checks.same("coefficient " + n + " by " + n, x.get(0, n), 1000 + n);
            x.turn(0, n, true);
            Checks.same("coefficient " + n + " back by " + n, x.get(0, n), 1000 + n);
            Checks.same("coefficient " + (n - 1) + " back by " + n, x.get(0, n - 1), 7);
            for (int k = 511; k >= 512 - 80; k--) {
                Checks.same("coefficient " + k + " by " + n, x.get(0, k), k);
            }
            Checks.same("length by " + n, x.length(0), 512);
        }
    }

    private static void emptyRow() {
        for (int n = 1; n <= 512; n *= 2) {
            Wheel x = new Wheel();
            x.turn(5, n, false);
            Checks.same("length, by " + n, x.length(5), 0);
            x.turn(5, n, true);
            Checks.same("length, back by " + n, x.length(5), 0);
        }
    }

    private static void backByEachN() {
        for (long p : Setups.PRIMES) {
            for (int n = 1; n <= 512; n *= 2) {
                int by = n;
                Checks.state("a full row modulo " + p + ", turned back by " + n, x -> {
                    x.field(p);
                    Setups.dense(x, 3, 512, 3 + by);
                    x.turn(3, by, true);
                });
            }
        }
        Wheel x = new Wheel();
        x.put(0, 0, 512);
        x.turn(0, 512, true);
        Checks.same("512 at 0, back by 512: first", x.get(0, 0), 1);
        Checks.same("512 at 0, back by 512: last", x.get(0, 511), 1);
        x.turn(0, 512, true);
        Checks.same("1 everywhere, back by 512: first", x.get(0, 0), 1);
        Checks.same("1 everywhere, back by 512: length", x.length(0), 1);
    }

    private static void backThenTurned() {
        for (long p : Setups.PRIMES) {
            State before = State.after(x -> fullRow(x, p));
            for (int n = 1; n <= 512; n *= 2) {
                int by = n;
                State backFirst = State.after(x -> {
                    fullRow(x, p);
                    x.turn(2, by, true);
                    x.turn(2, by, false);
                });
                State backLast = State.after(x -> {
                    fullRow(x, p);
                    x.turn(2, by, false);
                    x.turn(2, by, true);
                });
                for (int k = 0; k < 512; k++) {
                    String what = "by " + n + " modulo " + p + ", coefficient " + k;
                    Checks.same("back, then turned, " + what, backFirst.coefficient(2, k), before.coefficient(2, k));
                    Checks.same("turned, then back, " + what, backLast.coefficient(2, k), before.coefficient(2, k));
                }
            }
        }
    }

    private static void fullRow(Machine x, long p) {
        x.field(p);
        for (int k = 0; k < 100; k++) {
            x.put(2, 5 * k, k % 7 == 3 ? -1 : (k + 1) * 2654435761L);
        }
    }

    private static void byOne() {
        State before = State.dueAfter(Setups::mixed);
        for (boolean back : new boolean[] {false, true}) {
            for (int row : new int[] {0, 1, 3, 5}) {
                State after = State.after(x -> {
                    Setups.mixed(x);
                    x.turn(row, 1, back);
                });
                Checks.same("turn(" + row + ", 1, " + back + ") changes nothing", after.difference(before) == null, true);
            }
        }
    }

    private static void othersStay() {
        for (int row = 0; row < 6; row++) {
            int turned = row;
            Checks.state("row " + row + " is turned", x -> {
                Setups.mixed(x);
                x.turn(turned, 512, false);
            });
            Checks.state("row " + row + " is turned back", x -> {
                Setups.mixed(x);
                x.turn(turned, 128, true);
            });
        }
    }

    private static void byTheNewRoot() {
        long[][] rootOf = {{7681, 17}, {2147483137L, 10}, {152076289L, 106}, {FIRST, 3}};
        Wheel x = new Wheel();
        for (long[] pair : rootOf) {
            x.field(pair[0]);
            x.put(0, 1, 1);
            x.turn(0, 512, false);
            Checks.same("modulo " + pair[0], x.get(0, 1), x.power(pair[1], (pair[0] - 1) / 512));
        }
    }

    private static void refusesRows() {
        for (int row : Setups.NO_INDEX) {
            Checks.refused("turn(" + row + ", 4, false)", Checks.OUTSIDE, Setups::mixed, x -> x.turn(row, 4, false));
            Checks.refused("turn(" + row + ", 512, true)", Checks.OUTSIDE, Setups::mixed, x -> x.turn(row, 512, true));
        }
    }

    private static void refusesN() {
        for (int n : new int[] {Integer.MIN_VALUE, -512, -1, 0, 3, 511, 513, 1024, 1 << 30, Integer.MAX_VALUE}) {
            Checks.refused("turn(0, " + n + ", false)", Checks.ILLEGAL, Setups::mixed, x -> x.turn(0, n, false));
            Checks.refused("turn(5, " + n + ", true)", Checks.ILLEGAL, Setups::mixed, x -> x.turn(5, n, true));
        }
        for (int n = -600; n <= 1100; n++) {
            int by = n;
            if (n < 1 || n > 512 || Integer.bitCount(n) != 1) {
                Checks.thrown("turn(1, " + n + ", false)", Checks.ILLEGAL, () -> new Wheel().turn(1, by, false));
                Checks.thrown("turn(1, " + n + ", true)", Checks.ILLEGAL, () -> new Wheel().turn(1, by, true));
            }
        }
        for (int bit = 10; bit < 32; bit++) {
            int by = 1 << bit;
            Checks.thrown("turn(1, " + by + ", false)", Checks.ILLEGAL, () -> new Wheel().turn(1, by, false));
        }
    }

    private static void rowStandsFirst() {
        for (int row : Setups.NO_INDEX) {
            for (int n : new int[] {Integer.MIN_VALUE, -1, 0, 3, 513, 1024, Integer.MAX_VALUE}) {
                String what = "turn(" + row + ", " + n + ", ..)";
                Checks.thrown(what, Checks.OUTSIDE, () -> new Wheel().turn(row, n, false));
                Checks.thrown(what, Checks.OUTSIDE, () -> new Wheel().turn(row, n, true));
            }
        }
        Checks.refused("turn(6, 0, false)", Checks.OUTSIDE, Setups::mixed, x -> x.turn(6, 0, false));
    }
}
