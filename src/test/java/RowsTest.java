/** Part 2 of "Terms" as far as it tells what rows have, and promises 6 to 8 and 11: put, get, length, at. */
public final class RowsTest {
    private static final long FIRST = Setups.FIRST;
    private static final int[] NO_COEFFICIENT = {Integer.MIN_VALUE, -512, -1, 512, 513, 1024, Integer.MAX_VALUE};

    public static void main(String[] args) {
        Checks.sentence("Terms 2: ROWS 0 .. 5", RowsTest::sixRows);
        Checks.sentence("Terms 2: COEFFICIENTS 0 .. 511", RowsTest::allCoefficients);
        Checks.sentence("Terms 2: all 0 at first", RowsTest::allZeroAtFirst);
        Checks.sentence("Terms 2: when the prime becomes another one, all are 0 again", RowsTest::zeroAgain);
        Checks.sentence("Terms 2: LENGTH is one more than the greatest number", RowsTest::lengthOfEach);
        Checks.sentence("Terms 2: LENGTH is 0 without one", RowsTest::lengthWithoutOne);
        Checks.sentence("Promise 6: a coefficient: whether it is another one", RowsTest::putTellsWhetherAnother);
        Checks.sentence("Promise 6: numbers count by their rest", RowsTest::putCountsByRest);
        Checks.sentence("Promise 6: refused: no such row", RowsTest::putRefusesRows);
        Checks.sentence("Promise 6: refused: no such coefficient", RowsTest::putRefusesCoefficients);
        Checks.sentence("Promise 7: a coefficient", RowsTest::getTells);
        Checks.sentence("Promise 7: refused: no such row", RowsTest::getRefusesRows);
        Checks.sentence("Promise 7: refused: no such coefficient", RowsTest::getRefusesCoefficients);
        Checks.sentence("Promise 8: the length follows each change", RowsTest::lengthFollows);
        Checks.sentence("Promise 8: refused: no such row", RowsTest::lengthRefuses);
        Checks.sentence("Promise 11: what a row comes to at a number", RowsTest::atAnyNumber);
        Checks.sentence("Promise 11: an empty row comes to 0", RowsTest::atOfAnEmptyRow);
        Checks.sentence("Promise 11: a row of one coefficient", RowsTest::atOfOneCoefficient);
        Checks.sentence("Promise 11: at 0, 1 and -1", RowsTest::atSmallNumbers);
        Checks.sentence("Promise 11: refused: no such row", RowsTest::atRefuses);
        Checks.end();
    }

    private static void sixRows() {
        Wheel x = new Wheel();
        for (int row = 0; row < 6; row++) {
            Checks.same("put in row " + row, x.put(row, 3, 10 + row), true);
        }
        for (int row = 0; row < 6; row++) {
            Checks.same("row " + row, x.get(row, 3), 10 + row);
            Checks.same("length of row " + row, x.length(row), 4);
        }
        Checks.thrown("row -1", Checks.OUTSIDE, () -> x.get(-1, 3));
        Checks.thrown("row 6", Checks.OUTSIDE, () -> x.get(6, 3));
    }

    private static void allCoefficients() {
        for (int row = 0; row < 6; row++) {
            for (int part = 0; part < 512; part += 128) {
                Wheel x = new Wheel();
                for (int k = part; k < part + 128; k++) {
                    Checks.same("put at " + k, x.put(row, k, 1000 + k), true);
                }
                for (int k = part; k < part + 128; k++) {
                    Checks.same("coefficient " + k, x.get(row, k), 1000 + k);
                }
            }
        }
        Checks.thrown("coefficient -1", Checks.OUTSIDE, () -> new Wheel().get(0, -1));
        Checks.thrown("coefficient 512", Checks.OUTSIDE, () -> new Wheel().get(0, 512));
    }

    private static void allZeroAtFirst() {
        for (int row = 0; row < 6; row++) {
            Wheel x = new Wheel();
            Checks.same("length of row " + row, x.length(row), 0);
            for (int k = 0; k < 511; k++) {
                Checks.same("row " + row + ", coefficient " + k, x.get(row, k), 0);
            }
            Checks.same("row " + row + ", coefficient 511", new Wheel().get(row, 511), 0);
        }
    }

    private static void zeroAgain() {
        Wheel x = new Wheel();
        for (int row = 0; row < 6; row++) {
            x.put(row, 0, 1);
            x.put(row, 511, 1);
        }
        x.field(7681);
        for (int row = 0; row < 6; row++) {
            Checks.same("length of row " + row, x.length(row), 0);
            Checks.same("row " + row + ", coefficient 0", x.get(row, 0), 0);
            Checks.same("row " + row + ", coefficient 511", x.get(row, 511), 0);
            Checks.same("0 is no other one in row " + row, x.put(row, 511, 0), false);
        }
    }

    private static void lengthOfEach() {
        for (int k = 0; k < 512; k++) {
            Wheel x = new Wheel();
            x.put(4, k, -1);
            Checks.same("length with coefficient " + k + " alone", x.length(4), k + 1);
            x.put(4, 0, 1);
            Checks.same("length with coefficients 0 and " + k, x.length(4), k + 1);
            Checks.same("length of the row before", x.length(3), 0);
            Checks.same("length of the row behind", x.length(5), 0);
        }
    }

    private static void lengthWithoutOne() {
        Wheel x = new Wheel();
        Checks.same("at first", x.length(0), 0);
        x.put(0, 0, FIRST);
        Checks.same("p is 0", x.length(0), 0);
        x.put(0, 511, -FIRST);
        Checks.same("-p is 0", x.length(0), 0);
        x.put(0, 0, 1);
        x.put(0, 0, 0);
        Checks.same("after 1 and 0", x.length(0), 0);
    }

    private static void putTellsWhetherAnother() {
        Wheel x = new Wheel();
        for (int k : new int[] {0, 1, 510, 511}) {
            Checks.same("0 on 0", x.put(0, k, 0), false);
            Checks.same("1 on 0", x.put(0, k, 1), true);
            Checks.same("1 on 1", x.put(0, k, 1), false);
            Checks.same("p - 1 on 1", x.put(0, k, FIRST - 1), true);
            Checks.same("p - 1 on p - 1", x.put(0, k, FIRST - 1), false);
            Checks.same("0 on p - 1", x.put(0, k, 0), true);
            Checks.same("0 on 0 again", x.put(0, k, 0), false);
        }
        Checks.state("one coefficient alone becomes another", y -> {
            Setups.mixed(y);
            y.put(2, 100, 77);
        });
        Checks.state("a row that is empty", y -> {
            Setups.mixed(y);
            y.put(5, 511, 1);
        });
    }

    private static void putCountsByRest() {
        for (long p : Setups.PRIMES) {
            Wheel x = new Wheel();
            x.field(p);
            Checks.same("p on 0", x.put(5, 511, p), false);
            Checks.same("-p on 0", x.put(5, 511, -p), false);
            Checks.same("-1 on 0", x.put(5, 511, -1), true);
            Checks.same("-1 is told as p - 1", x.get(5, 511), p - 1);
            Checks.same("p - 1 on -1", x.put(5, 511, p - 1), false);
            Checks.same("2 p - 1 on -1", x.put(5, 511, 2 * p - 1), false);
            Checks.same("p + 1 on -1", x.put(5, 511, p + 1), true);
            Checks.same("p + 1 is told as 1", x.get(5, 511), 1);
            Checks.same("1 - p on 1", x.put(5, 511, 1 - p), false);
            Checks.same("p p on 1", x.put(5, 511, p * p), true);
            Checks.same("p p is told as 0", x.get(5, 511), 0);
            Checks.same("greatest long on 0", x.put(5, 511, Long.MAX_VALUE), true);
            Checks.same("greatest long", x.get(5, 511), Long.MAX_VALUE % p);
            Checks.same("least long", x.put(5, 511, Long.MIN_VALUE), true);
            Checks.same("least long", x.get(5, 511), Math.floorMod(Long.MIN_VALUE, p));
        }
    }

    private static void putRefusesRows() {
        for (int row : Setups.NO_INDEX) {
            Checks.refused("put(" + row + ", 0, 1)", Checks.OUTSIDE, Setups::mixed, x -> x.put(row, 0, 1));
            Checks.thrown("put(" + row + ", 512, 1)", Checks.OUTSIDE, () -> new Wheel().put(row, 512, 1));
        }
    }

    private static void putRefusesCoefficients() {
        for (int k : NO_COEFFICIENT) {
            for (int row : new int[] {0, 1, 5}) {
                Checks.refused("put(" + row + ", " + k + ", 1)", Checks.OUTSIDE, Setups::mixed, x -> x.put(row, k, 1));
            }
        }
    }

    private static void getTells() {
        Wheel x = new Wheel();
        x.put(0, 0, 5);
        x.put(0, 511, 6);
        x.put(5, 0, 7);
        x.put(5, 511, 8);
        Checks.same("row 0, coefficient 0", x.get(0, 0), 5);
        Checks.same("row 0, coefficient 511", x.get(0, 511), 6);
        Checks.same("row 5, coefficient 0", x.get(5, 0), 7);
        Checks.same("row 5, coefficient 511", x.get(5, 511), 8);
        Checks.same("row 0, coefficient 1", x.get(0, 1), 0);
        Checks.same("row 1, coefficient 0", x.get(1, 0), 0);
        Checks.same("row 4, coefficient 511", x.get(4, 511), 0);
        Checks.state("get changes nothing", y -> {
            Setups.mixed(y);
            y.get(0, 511);
        });
    }

    private static void getRefusesRows() {
        for (int row : Setups.NO_INDEX) {
            Checks.refused("get(" + row + ", 0)", Checks.OUTSIDE, Setups::mixed, x -> x.get(row, 0));
            Checks.thrown("get(" + row + ", -1)", Checks.OUTSIDE, () -> new Wheel().get(row, -1));
        }
    }

    private static void getRefusesCoefficients() {
        for (int k : NO_COEFFICIENT) {
            for (int row : new int[] {0, 1, 5}) {
                Checks.refused("get(" + row + ", " + k + ")", Checks.OUTSIDE, Setups::mixed, x -> x.get(row, k));
            }
        }
    }

    private static void lengthFollows() {
        Wheel x = new Wheel();
        x.put(1, 511, 1);
        x.put(1, 200, 4);
        Checks.same("full", x.length(1), 512);
        x.put(1, 511, FIRST);
        Checks.same("the last became 0", x.length(1), 201);
        x.put(1, 0, 1);
        Checks.same("a lesser one", x.length(1), 201);
        x.put(1, 200, 0);
        Checks.same("the next became 0", x.length(1), 1);
        x.turn(1, 512, false);
        Checks.same("turned by 512", x.length(1), 512);
        x.turn(1, 512, true);
        Checks.same("and back", x.length(1), 1);
        x.turn(1, 4, false);
        Checks.same("turned by 4", x.length(1), 4);
        x.product(1, 1, 1);
        Checks.same("its square", x.length(1), 7);
        x.product(1, 1, 0);
        Checks.same("times an empty row", x.length(1), 0);
        Checks.state("length changes nothing", y -> {
            Setups.mixed(y);
            y.length(0);
            y.length(5);
        });
    }

    private static void lengthRefuses() {
        for (int row : Setups.NO_INDEX) {
            Checks.refused("length(" + row + ")", Checks.OUTSIDE, Setups::mixed, x -> x.length(row));
        }
    }

    private static void atAnyNumber() {
        for (long p : Setups.PRIMES) {
            Wheel x = new Wheel();
            Model model = new Model();
            fullAndShort(x, p);
            fullAndShort(model, p);
            for (int row = 0; row < 4; row++) {
                for (long given : new long[] {0, 1, -1, 2, p - 1, p, p + 1, p + 3, -p, p * p, 1L << 32, 123456789,
                    Long.MAX_VALUE, Long.MIN_VALUE}) {
                    Checks.same("at(" + row + ", " + given + ")", x.at(row, given), model.at(row, given));
                }
            }
        }
        Checks.state("at changes nothing", y -> {
            Setups.mixed(y);
            y.at(0, Long.MIN_VALUE);
        });
    }

    /** Row 2 has p - 1 everywhere, the greatest coefficients that there are. */
    private static void fullAndShort(Machine x, long p) {
        x.field(p);
        Setups.dense(x, 0, 512, 21);
        Setups.dense(x, 1, 64, 22);
        x.put(2, 0, -1);
        x.turn(2, 512, false);
        x.put(3, 511, -1);
    }

    private static void atOfAnEmptyRow() {
        Wheel x = new Wheel();
        for (long given : new long[] {0, 1, -1, FIRST, Long.MAX_VALUE, Long.MIN_VALUE}) {
            Checks.same("at " + given, x.at(0, given), 0);
            Checks.same("at " + given, x.at(5, given), 0);
        }
    }

    private static void atOfOneCoefficient() {
        Wheel x = new Wheel();
        x.put(0, 0, -1);
        Checks.same("p - 1 at 0", x.at(0, 0), FIRST - 1);
        Checks.same("p - 1 at 5", x.at(0, 5), FIRST - 1);
        Checks.same("p - 1 at p", x.at(0, FIRST), FIRST - 1);
        x.put(1, 511, 3);
        Checks.same("greatest coefficient at 0", x.at(1, 0), 0);
        Checks.same("greatest coefficient at 1", x.at(1, 1), 3);
        Checks.same("greatest coefficient at -1", x.at(1, -1), FIRST - 3);
        Checks.same("greatest coefficient at 2", x.at(1, 2), x.times(3, x.power(2, 511)));
    }

    private static void atSmallNumbers() {
        Wheel x = new Wheel();
        for (int k = 0; k < 400; k++) {
            x.put(2, k, FIRST - 1);
        }
        Checks.same("at 0, the lowest", x.at(2, 0), FIRST - 1);
        Checks.same("at p, the lowest", x.at(2, FIRST), FIRST - 1);
        Checks.same("at 1, the sum", x.at(2, 1), FIRST - 400);
        Checks.same("at p + 1, the sum", x.at(2, FIRST + 1), FIRST - 400);
        Checks.same("at -1, every other one taken off", x.at(2, -1), 0);
        x.put(2, 399, 0);
        Checks.same("at -1, one is left", x.at(2, -1), FIRST - 1);
        Checks.same("at p - 1, one is left", x.at(2, FIRST - 1), FIRST - 1);
    }

    private static void atRefuses() {
        for (int row : Setups.NO_INDEX) {
            Checks.refused("at(" + row + ", 0)", Checks.OUTSIDE, Setups::mixed, x -> x.at(row, 0));
            Checks.thrown("at(" + row + ", -1)", Checks.OUTSIDE, () -> new Wheel().at(row, Long.MIN_VALUE));
        }
    }
}
