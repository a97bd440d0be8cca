/** "THE PRODUCT" in part 2 of "Terms", and promise 10: product. */
public final class ProductTest {
    private static final long FIRST = Setups.FIRST;

    public static void main(String[] args) {
        Checks.sentence("Terms 2: THE PRODUCT of both as polynomials", ProductTest::ofAnyLengths);
        Checks.sentence("Terms 2: the product's coefficients are told modulo p", ProductTest::sumsWrap);
        Checks.sentence("Promise 10: row to becomes the product: its length", ProductTest::answersItsLength);
        Checks.sentence("Promise 10: what row to had before is gone", ProductTest::whatWasThereIsGone);
        Checks.sentence("Promise 10: any of them may be the same", ProductTest::anyMayBeTheSame);
        Checks.sentence("Promise 10: up to 512 coefficients", ProductTest::fillsAllRoom);
        Checks.sentence("Promise 10: no coefficient comes round to a lower one", ProductTest::nothingComesRound);
        Checks.sentence("Promise 10: if none is 0: products of empty rows", ProductTest::ofEmptyRows);
        Checks.sentence("Promise 10: refused: no such row", ProductTest::refusesRows);
        Checks.sentence("Promise 10: refused: more than 512 coefficients", ProductTest::refusesTooMany);
        Checks.sentence("Promise 10: refused: lengths count, not coefficients that are 0", ProductTest::lengthsCount);
        Checks.sentence("Promise 10: refused: the row stands before the room", ProductTest::rowStandsFirst);
        Checks.end();
    }

    /** Coefficients below a length, all of them mixed, in at most 72 calls. */
    private static void ofLength(Machine x, int row, int length, long seed) {
        int n = 4;
        while (2 * n <= length) {
            n *= 2;
        }
        if (length >= 4) {
            Setups.dense(x, row, n, seed);
        }
        int from = length < 4 ? 0 : Math.max(n, length - 60);
        for (int k = from; k < length; k++) {
            x.put(row, k, (seed + k) * 2654435761L);
        }
    }

    private static void ofAnyLengths() {
        int[][] lengths = {{1, 1}, {1, 2}, {2, 1}, {2, 2}, {2, 3}, {3, 3}, {4, 4}, {4, 5}, {5, 5}, {8, 9}, {9, 9},
            {16, 17}, {17, 17}, {32, 33}, {33, 33}, {64, 65}, {65, 65}, {100, 29}, {100, 30}, {128, 129}, {129, 129},
            {200, 57}, {200, 58}, {256, 256}, {256, 257}, {257, 256}, {511, 1}, {511, 2}, {2, 511}, {512, 1}, {1, 512},
            {300, 213}};
        for (long p : Setups.PRIMES) {
            for (int[] pair : lengths) {
                Checks.state("lengths " + pair[0] + " and " + pair[1] + " modulo " + p, x -> {
                    x.field(p);
                    ofLength(x, 0, pair[0], 11);
                    ofLength(x, 1, pair[1], 13);
                    Checks.same("length of a", x.length(0), pair[0]);
                    Checks.same("length of b", x.length(1), pair[1]);
                    Checks.same("its length", x.product(2, 0, 1), pair[0] + pair[1] - 1);
                });
            }
        }
    }

    private static void sumsWrap() {
        for (long p : Setups.PRIMES) {
            Wheel x = new Wheel();
            x.field(p);
            for (int k = 0; k < 200; k++) {
                x.put(0, k, p - 1);
            }
            Checks.same("its length", x.product(1, 0, 0), 399);
            for (int k = 0; k < 200; k++) {
                Checks.same("coefficient " + k + " modulo " + p, x.get(1, k), k + 1);
            }
            Checks.same("coefficient 398 modulo " + p, x.get(1, 398), 1);
            x.put(2, 0, p - 1);
            x.put(3, 0, 1);
            x.put(3, 1, p + 2);
            Checks.same("length of -1 times (1 + 2 z)", x.product(4, 2, 3), 2);
            Checks.same("-1 times 1", x.get(4, 0), p - 1);
            Checks.same("-1 times 2", x.get(4, 1), p - 2);
        }
    }

    private static void answersItsLength() {
        Wheel x = new Wheel();
        x.put(0, 0, 1);
        x.put(0, 1, 2);
        x.put(1, 0, -1);
        x.put(1, 2, 3);
        Checks.same("(1 + 2 z) (-1 + 3 z z)", x.product(2, 0, 1), 4);
        Checks.same("length afterwards", x.length(2), 4);
        Checks.same("coefficient 0", x.get(2, 0), FIRST - 1);
        Checks.same("coefficient 1", x.get(2, 1), FIRST - 2);
        Checks.same("coefficient 2", x.get(2, 2), 3);
        Checks.same("coefficient 3", x.get(2, 3), 6);
        Checks.same("coefficient 4", x.get(2, 4), 0);
        Checks.same("a stays", x.length(0), 2);
        Checks.same("b stays", x.length(1), 3);
        x.put(3, 0, 1);
        Checks.same("1 times 1", x.product(3, 3, 3), 1);
        Checks.same("1 times (1 + 2 z)", x.product(4, 3, 0), 2);
        x.put(4, 1, -2);
        Checks.same("the middle falls out, the length stays", x.product(5, 0, 4), 3);
        Checks.same("the middle", x.get(5, 1), 0);
    }

    private static void whatWasThereIsGone() {
        Checks.state("a full row becomes a short product", x -> {
            Setups.mixed(x);
            x.product(0, 1, 3);
        });
        Checks.state("a full row becomes a product of 258", x -> {
            Setups.mixed(x);
            x.product(0, 2, 1);
        });
        Checks.state("a great product, then a small one", x -> {
            Setups.mixed(x);
            x.product(5, 2, 4);
            x.product(5, 1, 1);
        });
        Wheel x = new Wheel();
        x.put(0, 511, 9);
        x.put(0, 1, 9);
        x.put(1, 0, 2);
        Checks.same("2 times 2", x.product(0, 1, 1), 1);
        Checks.same("coefficient 0", x.get(0, 0), 4);
        Checks.same("coefficient 1", x.get(0, 1), 0);
        Checks.same("coefficient 511", x.get(0, 511), 0);
        Checks.same("length", x.length(0), 1);
    }

    private static void anyMayBeTheSame() {
        int[][] calls = {{4, 4, 1}, {1, 4, 1}, {4, 1, 4}, {1, 1, 4}, {5, 4, 4}, {4, 4, 4}, {1, 1, 1}, {3, 3, 3},
            {0, 0, 3}, {0, 3, 0}, {3, 0, 3}, {3, 3, 0}, {5, 5, 5}, {5, 0, 5}, {0, 0, 5}, {0, 5, 5}, {2, 2, 4}, {4, 2, 4}};
        for (int[] call : calls) {
            Checks.state("product(" + call[0] + ", " + call[1] + ", " + call[2] + ")", x -> {
                Setups.mixed(x);
                x.product(call[0], call[1], call[2]);
            });
        }
        Wheel x = new Wheel();
        x.put(0, 0, 1);
        x.put(0, 1, 1);
        Checks.same("(1 + z) (1 + z) in its place", x.product(0, 0, 0), 3);
        Checks.same("1", x.get(0, 0), 1);
        Checks.same("2 z", x.get(0, 1), 2);
        Checks.same("z z", x.get(0, 2), 1);
    }

    private static void fillsAllRoom() {
        int[][] lengths = {{512, 1}, {511, 2}, {257, 256}, {256, 257}, {2, 511}, {1, 512}};
        for (int[] pair : lengths) {
            Wheel x = new Wheel();
            x.put(0, 0, 1);
            x.put(0, pair[0] - 1, 5);
            x.put(1, 0, 1);
            x.put(1, pair[1] - 1, -3);
            String what = "lengths " + pair[0] + " and " + pair[1];
            long last = x.times(x.get(0, pair[0] - 1), x.get(1, pair[1] - 1));
            Checks.same(what, x.product(2, 0, 1), 512);
            Checks.same(what + ", coefficient 511", x.get(2, 511), last);
            Checks.same(what + ", length", x.length(2), 512);
        }
    }

    private static void nothingComesRound() {
        for (int i = 0; i < 512; i++) {
            Wheel x = new Wheel();
            x.put(0, i, 2);
            x.put(1, 511 - i, 3);
            Checks.same("length of z to the " + i + " and " + (511 - i), x.product(2, 0, 1), 512);
            Checks.same("coefficient 511", x.get(2, 511), 6);
            Checks.same("coefficient 0", x.get(2, 0), 0);
            Checks.same("coefficient 510", x.get(2, 510), 0);
        }
        for (int n = 1; n <= 256; n *= 2) {
            Wheel x = new Wheel();
            x.put(0, n - 1, 2);
            x.put(1, 1, 3);
            Checks.same("length of z to the " + (n - 1) + " times z", x.product(2, 0, 1), n + 1);
            Checks.same("coefficient 0 beside " + n, x.get(2, 0), 0);
            Checks.same("coefficient " + n, x.get(2, n), 6);
        }
    }

    private static void ofEmptyRows() {
        int[][] calls = {{1, 5, 0}, {1, 0, 5}, {0, 0, 5}, {0, 5, 0}, {5, 5, 0}, {5, 0, 5}, {0, 5, 5}, {5, 5, 5}, {1, 3, 5}};
        for (int[] call : calls) {
            String what = "product(" + call[0] + ", " + call[1] + ", " + call[2] + ")";
            Wheel x = new Wheel();
            Setups.mixed(x);
            Checks.same(what, x.product(call[0], call[1], call[2]), 0);
            Checks.same(what + ", length", x.length(call[0]), 0);
            Checks.state(what, y -> {
                Setups.mixed(y);
                y.product(call[0], call[1], call[2]);
            });
        }
    }

    private static void refusesRows() {
        for (int row : Setups.NO_INDEX) {
            Checks.refused("product(" + row + ", 1, 3)", Checks.OUTSIDE, Setups::mixed, x -> x.product(row, 1, 3));
            Checks.refused("product(0, " + row + ", 3)", Checks.OUTSIDE, Setups::mixed, x -> x.product(0, row, 3));
            Checks.refused("product(0, 1, " + row + ")", Checks.OUTSIDE, Setups::mixed, x -> x.product(0, 1, row));
            Checks.refused("product(0, 5, " + row + ")", Checks.OUTSIDE, Setups::mixed, x -> x.product(0, 5, row));
            Checks.refused("product(" + row + ", 5, 5)", Checks.OUTSIDE, Setups::mixed, x -> x.product(row, 5, 5));
        }
    }

    /** Rows 0, 1, 2 and 4 of the setup have lengths 512, 2, 257 and 256. */
    private static void refusesTooMany() {
        int[][] calls = {{3, 2, 2}, {2, 2, 2}, {0, 0, 1}, {1, 0, 1}, {5, 1, 0}, {0, 0, 0}, {5, 0, 2}, {5, 4, 0}};
        for (int[] call : calls) {
            String what = "product(" + call[0] + ", " + call[1] + ", " + call[2] + ")";
            Checks.refused(what, Checks.NO_ROOM, Setups::mixed, x -> x.product(call[0], call[1], call[2]));
        }
        for (int lengthA = 2; lengthA <= 512; lengthA++) {
            Wheel x = new Wheel();
            x.put(0, lengthA - 1, 1);
            x.put(1, 513 - lengthA, 1);
            Checks.thrown("lengths " + lengthA + " and " + (514 - lengthA), Checks.NO_ROOM, () -> x.product(2, 0, 1));
            x.put(1, 512 - lengthA, 1);
            x.put(1, 513 - lengthA, 0);
            Checks.same("lengths " + lengthA + " and " + (513 - lengthA), x.product(2, 0, 1), 512);
        }
    }

    private static void lengthsCount() {
        Wheel x = new Wheel();
        x.put(0, 256, 1);
        Checks.thrown("z to the 256, squared", Checks.NO_ROOM, () -> x.product(1, 0, 0));
        x.put(0, 255, 1);
        x.put(0, 256, FIRST);
        Checks.same("z to the 255, squared, after the higher one became 0", x.product(1, 0, 0), 511);
        x.put(2, 511, 1);
        x.put(3, 1, 1);
        Checks.thrown("z to the 511 times z", Checks.NO_ROOM, () -> x.product(4, 2, 3));
        x.put(3, 1, 0);
        Checks.same("z to the 511 times 0", x.product(4, 2, 3), 0);
        x.put(3, 0, 1);
        Checks.same("z to the 511 times 1, a full row to begin with", x.product(2, 2, 3), 512);
    }

    private static void rowStandsFirst() {
        for (int row : Setups.NO_INDEX) {
            Checks.refused("product(" + row + ", 0, 0)", Checks.OUTSIDE, Setups::mixed, x -> x.product(row, 0, 0));
            Checks.refused("product(" + row + ", 2, 2)", Checks.OUTSIDE, Setups::mixed, x -> x.product(row, 2, 2));
            Checks.refused("product(0, " + row + ", 0)", Checks.OUTSIDE, Setups::mixed, x -> x.product(0, row, 0));
            Checks.refused("product(0, 0, " + row + ")", Checks.OUTSIDE, Setups::mixed, x -> x.product(0, 0, row));
        }
    }
}
