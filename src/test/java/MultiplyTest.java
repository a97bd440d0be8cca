import java.math.BigInteger;

/** Promise 15: multiply. */
public final class MultiplyTest {
    public static void main(String[] args) {
        Checks.sentence("What it is: natural numbers of any length, exactly", MultiplyTest::ofAnySizes);
        Checks.sentence("Promise 15: natural to becomes the product: its size", MultiplyTest::answersItsSize);
        Checks.sentence("Promise 15: what natural to had before is gone", MultiplyTest::whatWasThereIsGone);
        Checks.sentence("Promise 15: any may be the same", MultiplyTest::anyMayBeTheSame);
        Checks.sentence("Promise 15: sizes of both together up to 240", MultiplyTest::fillsAllRoom);
        Checks.sentence("Promise 15: and none is 0: products with 0", MultiplyTest::withZero);
        Checks.sentence("Promise 15: refused: no such natural", MultiplyTest::refusesNaturals);
        Checks.sentence("Promise 15: refused: sizes of both together above 240", MultiplyTest::refusesTooMany);
        Checks.sentence("Promise 15: refused: though the product had 240 words", MultiplyTest::refusesBySizesAlone);
        Checks.sentence("Promise 15: refused: the natural stands before the room", MultiplyTest::naturalStandsFirst);
        Checks.end();
    }

    private static void compare(BigInteger a, BigInteger b) {
        String what = "sizes " + Setups.words(a) + " and " + Setups.words(b);
        Wheel x = new Wheel();
        Setups.number(x, 0, a);
        Setups.number(x, 1, b);
        Checks.same(what, x.multiply(2, 0, 1), Setups.words(a.multiply(b)));
        Checks.same(what + ", size", x.size(2), Setups.words(a.multiply(b)));
        Checks.state(what, y -> {
            Setups.number(y, 0, a);
            Setups.number(y, 1, b);
            y.multiply(2, 0, 1);
        });
    }

    private static void ofAnySizes() {
        int[][] sizes = {{1, 1}, {1, 2}, {2, 1}, {2, 3}, {17, 40}, {64, 65}, {200, 3}};
        for (int[] pair : sizes) {
            compare(Setups.allBits(pair[0]), Setups.allBits(pair[1]));
            compare(Setups.mixedBits(pair[0], 31), Setups.mixedBits(pair[1], 63));
            compare(Setups.mixedBits(pair[0], 5), Setups.mixedBits(pair[1], 6));
            compare(Setups.least(pair[0]), Setups.least(pair[1]));
        }
    }

    private static void answersItsSize() {
        Wheel x = new Wheel();
        x.word(0, 0, -1);
        x.word(1, 0, 1);
        x.word(2, 0, 65536);
        x.word(3, 0, 65535);
        Checks.same("(2 to the 32 less 1), squared", x.multiply(4, 0, 0), 2);
        Checks.same("its word 0", x.wordAt(4, 0), 1);
        Checks.same("its word 1", x.wordAt(4, 1), 4294967294L);
        Checks.same("times 1", x.multiply(4, 0, 1), 1);
        Checks.same("its word 0", x.wordAt(4, 0), 4294967295L);
        Checks.same("2 to the 16, squared", x.multiply(4, 2, 2), 2);
        Checks.same("its word 0", x.wordAt(4, 0), 0);
        Checks.same("its word 1", x.wordAt(4, 1), 1);
        Checks.same("2 to the 16, times 1 less", x.multiply(4, 2, 3), 1);
        Checks.same("its word 0", x.wordAt(4, 0), 4294901760L);
        Checks.same("1 times 1", x.multiply(4, 1, 1), 1);
        Checks.same("a stays", x.wordAt(0, 0), 4294967295L);
    }

    private static void whatWasThereIsGone() {
        Checks.state("a full natural becomes 1 times 1", x -> {
            Setups.mixed(x);
            x.multiply(0, 1, 1);
        });
        Checks.state("a full natural becomes a product of 239 words", x -> {
            Setups.mixed(x);
            x.multiply(0, 3, 3);
        });
        Checks.state("a great product, then a small one", x -> {
            Setups.number(x, 0, Setups.allBits(120));
            x.word(1, 0, -1);
            x.multiply(2, 0, 0);
            x.multiply(2, 1, 1);
        });
        Checks.state("a great sum, then a small product", x -> {
            Setups.mixed(x);
            x.sum(2, 0, 5);
            x.multiply(2, 1, 1);
        });
    }

    /** Naturals 0 to 5 of the setup have sizes 240, 1, 121, 120, 240 and 0. */
    private static void anyMayBeTheSame() {
        int[][] calls = {{3, 3, 1}, {1, 3, 1}, {3, 1, 3}, {1, 1, 3}, {5, 3, 3}, {3, 3, 3}, {1, 1, 1}, {2, 2, 1},
            {2, 1, 2}, {5, 5, 5}, {0, 0, 5}, {5, 0, 5}, {0, 5, 5}, {4, 5, 4}};
        for (int[] call : calls) {
            Checks.state("multiply(" + call[0] + ", " + call[1] + ", " + call[2] + ")", x -> {
                Setups.mixed(x);
                x.multiply(call[0], call[1], call[2]);
            });
        }
        for (int seed = 1; seed < 4; seed++) {
            BigInteger value = Setups.mixedBits(120, seed);
            Checks.state("a square of full size in its place", x -> {
                Setups.number(x, 3, value);
                x.multiply(3, 3, 3);
            });
        }
    }

    private static void fillsAllRoom() {
        for (int sizeA : new int[] {1, 2, 3, 40, 119, 120, 121, 200, 238, 239}) {
            int sizeB = 240 - sizeA;
            compare(Setups.allBits(sizeA), Setups.allBits(sizeB));
            compare(Setups.least(sizeA), Setups.least(sizeB));
            compare(Setups.mixedBits(sizeA, 31), Setups.mixedBits(sizeB, 63));
        }
        Wheel x = new Wheel();
        Setups.number(x, 0, Setups.allBits(120));
        Checks.same("greatest number of 120 words, squared", x.multiply(1, 0, 0), 240);
        Checks.same("its word 0", x.wordAt(1, 0), 1);
        Checks.same("its word 119", x.wordAt(1, 119), 0);
        Checks.same("its word 120", x.wordAt(1, 120), 4294967294L);
        Checks.same("its word 239", x.wordAt(1, 239), 4294967295L);
        x.word(2, 119, 1);
        Checks.same("least number of 120 words, squared", x.multiply(3, 2, 2), 239);
        Checks.same("its word 238", x.wordAt(3, 238), 1);
    }

    private static void withZero() {
        int[][] calls = {{1, 5, 0}, {1, 0, 5}, {0, 0, 5}, {0, 5, 0}, {5, 5, 0}, {5, 0, 5}, {0, 5, 5}, {5, 5, 5},
            {4, 4, 5}, {1, 1, 5}};
        for (int[] call : calls) {
            String what = "multiply(" + call[0] + ", " + call[1] + ", " + call[2] + ")";
            Wheel x = new Wheel();
            Setups.mixed(x);
            Checks.same(what, x.multiply(call[0], call[1], call[2]), 0);
            Checks.same(what + ", size", x.size(call[0]), 0);
            Checks.state(what, y -> {
                Setups.mixed(y);
                y.multiply(call[0], call[1], call[2]);
            });
        }
    }

    private static void refusesNaturals() {
        for (int natural : Setups.NO_INDEX) {
            String bad = Integer.toString(natural);
            Checks.refused("multiply(" + bad + ", 1, 3)", Checks.OUTSIDE, Setups::mixed, x -> x.multiply(natural, 1, 3));
            Checks.refused("multiply(0, " + bad + ", 3)", Checks.OUTSIDE, Setups::mixed, x -> x.multiply(0, natural, 3));
            Checks.refused("multiply(0, 1, " + bad + ")", Checks.OUTSIDE, Setups::mixed, x -> x.multiply(0, 1, natural));
            Checks.refused("multiply(0, 5, " + bad + ")", Checks.OUTSIDE, Setups::mixed, x -> x.multiply(0, 5, natural));
            Checks.refused("multiply(" + bad + ", 5, 5)", Checks.OUTSIDE, Setups::mixed, x -> x.multiply(natural, 5, 5));
        }
    }

    private static void refusesTooMany() {
        int[][] calls = {{0, 2, 3}, {2, 2, 3}, {3, 2, 3}, {5, 3, 2}, {1, 0, 1}, {0, 1, 0}, {5, 4, 1}, {5, 0, 0},
            {0, 0, 0}, {4, 4, 4}, {5, 2, 2}};
        for (int[] call : calls) {
            String what = "multiply(" + call[0] + ", " + call[1] + ", " + call[2] + ")";
            Checks.refused(what, Checks.NO_ROOM, Setups::mixed, x -> x.multiply(call[0], call[1], call[2]));
        }
        for (int sizeA = 1; sizeA <= 240; sizeA++) {
            Wheel x = new Wheel();
            x.word(0, sizeA - 1, -1);
            x.word(1, 240 - sizeA, -1);
            Checks.thrown("sizes " + sizeA + " and " + (241 - sizeA), Checks.NO_ROOM, () -> x.multiply(2, 0, 1));
            x.word(1, 240 - sizeA, 0);
            if (sizeA < 240) {
                x.word(1, 239 - sizeA, -1);
                Checks.same("sizes " + sizeA + " and " + (240 - sizeA), x.multiply(2, 0, 1), 240);
            }
        }
    }

    private static void refusesBySizesAlone() {
        for (int sizeA = 1; sizeA <= 240; sizeA++) {
            Wheel x = new Wheel();
            x.word(0, sizeA - 1, 1);
            x.word(1, 240 - sizeA, 1);
            Checks.thrown("sizes " + sizeA + " and " + (241 - sizeA), Checks.NO_ROOM, () -> x.multiply(2, 0, 1));
            Checks.same("natural 2", x.size(2), 0);
        }
        Checks.refused("a full natural times 1", Checks.NO_ROOM, Setups::mixed, x -> x.multiply(5, 0, 1));
    }

    private static void naturalStandsFirst() {
        for (int natural : Setups.NO_INDEX) {
            String bad = Integer.toString(natural);
            Checks.refused("multiply(" + bad + ", 0, 0)", Checks.OUTSIDE, Setups::mixed, x -> x.multiply(natural, 0, 0));
            Checks.refused("multiply(" + bad + ", 2, 3)", Checks.OUTSIDE, Setups::mixed, x -> x.multiply(natural, 2, 3));
            Checks.refused("multiply(0, " + bad + ", 0)", Checks.OUTSIDE, Setups::mixed, x -> x.multiply(0, natural, 0));
            Checks.refused("multiply(0, 0, " + bad + ")", Checks.OUTSIDE, Setups::mixed, x -> x.multiply(0, 0, natural));
        }
    }
}
