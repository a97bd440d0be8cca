import java.math.BigInteger;

/** Promise 16: sum. */
public final class SumTest {
    public static void main(String[] args) {
        Checks.sentence("Promise 16: natural to becomes the sum", SumTest::ofAnySizes);
        Checks.sentence("Promise 16: its size", SumTest::answersItsSize);
        Checks.sentence("Promise 16: what natural to had before is gone", SumTest::whatWasThereIsGone);
        Checks.sentence("Promise 16: the same natural for several of them", SumTest::anyMayBeTheSame);
        Checks.sentence("Promise 16: a carry goes through all words", SumTest::carryGoesThrough);
        Checks.sentence("Promise 16: up to 240 words", SumTest::fillsAllRoom);
        Checks.sentence("Promise 16: sums with 0", SumTest::withZero);
        Checks.sentence("Promise 16: refused: no such natural", SumTest::refusesNaturals);
        Checks.sentence("Promise 16: refused: it has more than 240 words", SumTest::refusesTooMany);
        Checks.sentence("Promise 16: refused: the natural stands before the room", SumTest::naturalStandsFirst);
        Checks.end();
    }

    private static void compare(BigInteger a, BigInteger b) {
        String what = "sizes " + Setups.words(a) + " and " + Setups.words(b);
        Wheel x = new Wheel();
        Setups.number(x, 0, a);
        Setups.number(x, 1, b);
        Checks.same(what, x.sum(2, 0, 1), Setups.words(a.add(b)));
        Checks.same(what + ", size", x.size(2), Setups.words(a.add(b)));
        Checks.state(what, y -> {
            Setups.number(y, 0, a);
            Setups.number(y, 1, b);
            y.sum(2, 0, 1);
        });
    }

    private static void ofAnySizes() {
        int[][] sizes = {{1, 1}, {1, 2}, {2, 1}, {3, 17}, {120, 120}, {120, 200}, {238, 239}, {240, 200}};
        for (int[] pair : sizes) {
            compare(Setups.mixedBits(pair[0], 31), Setups.mixedBits(pair[1], 63));
            compare(Setups.mixedBits(pair[0], 5), Setups.mixedBits(pair[1], 6));
            compare(Setups.least(pair[0]), Setups.least(pair[1]));
        }
    }

    private static void answersItsSize() {
        Wheel x = new Wheel();
        x.word(0, 0, -1);
        x.word(1, 0, 1);
        x.word(2, 0, -2);
        Checks.same("1 and 1", x.sum(3, 1, 1), 1);
        Checks.same("its word 0", x.wordAt(3, 0), 2);
        Checks.same("greatest sum of one word", x.sum(3, 2, 1), 1);
        Checks.same("its word 0", x.wordAt(3, 0), 4294967295L);
        Checks.same("one more", x.sum(3, 0, 1), 2);
        Checks.same("its word 0", x.wordAt(3, 0), 0);
        Checks.same("its word 1", x.wordAt(3, 1), 1);
        Checks.same("greatest words twice", x.sum(3, 0, 0), 2);
        Checks.same("its word 0", x.wordAt(3, 0), 4294967294L);
        Checks.same("its word 1", x.wordAt(3, 1), 1);
        Checks.same("a stays", x.wordAt(0, 0), 4294967295L);
    }

    private static void whatWasThereIsGone() {
        Checks.state("a full natural becomes 1 and 1", x -> {
            Setups.mixed(x);
            x.sum(0, 1, 1);
        });
        Checks.state("a full natural becomes a sum of 121 words", x -> {
            Setups.mixed(x);
            x.sum(0, 2, 3);
        });
    }

    /** Naturals 0 to 5 of the setup have sizes 240, 1, 121, 120, 240 and 0. */
    private static void anyMayBeTheSame() {
        int[][] calls = {{3, 3, 1}, {1, 3, 1}, {3, 1, 3}, {1, 1, 3}, {5, 3, 3}, {3, 3, 3}, {1, 1, 1}, {2, 2, 4},
            {2, 4, 2}, {5, 5, 5}, {0, 0, 5}, {5, 0, 5}, {0, 5, 5}, {4, 5, 4}, {4, 4, 1}};
        for (int[] call : calls) {
            Checks.state("sum(" + call[0] + ", " + call[1] + ", " + call[2] + ")", x -> {
                Setups.mixed(x);
                x.sum(call[0], call[1], call[2]);
            });
        }
        Checks.state("239 full words twice, in their place", x -> {
            Setups.number(x, 3, Setups.allBits(239));
            x.sum(3, 3, 3);
        });
    }

    private static void carryGoesThrough() {
        for (int words = 1; words < 240; words++) {
            compareCarry(words);
        }
        compare(Setups.allBits(239), Setups.allBits(239));
        compare(Setups.allBits(239), BigInteger.ONE);
    }

    private static void compareCarry(int words) {
        Wheel x = new Wheel();
        Setups.number(x, 0, Setups.allBits(words));
        x.word(1, 0, 1);
        Checks.same("full words and 1, size", x.sum(2, 0, 1), words + 1);
        Checks.same("full words and 1, the last", x.wordAt(2, words), 1);
        Checks.same("full words and 1, the one before", x.wordAt(2, words - 1), 0);
        Checks.same("full words and 1, the lowest", x.wordAt(2, 0), 0);
    }

    private static void fillsAllRoom() {
        BigInteger half = BigInteger.ONE.shiftLeft(32 * 240 - 1);
        compare(Setups.allBits(240).subtract(BigInteger.ONE), BigInteger.ONE);
        compare(half, half.subtract(BigInteger.ONE).shiftRight(3000).shiftLeft(3000));
        compare(Setups.allBits(239), Setups.least(240));
        compare(Setups.least(240), Setups.allBits(239));
        Wheel x = new Wheel();
        x.word(0, 239, 1L << 31);
        x.word(1, 239, (1L << 31) - 1);
        Checks.same("the greatest highest word", x.sum(2, 0, 1), 240);
        Checks.same("its word 239", x.wordAt(2, 239), 4294967295L);
        x.word(3, 238, -1);
        Checks.same("and all below it", x.sum(2, 2, 3), 240);
        Checks.same("its word 238", x.wordAt(2, 238), 4294967295L);
        x.word(4, 238, 1);
        Checks.thrown("one more", Checks.NO_ROOM, () -> x.sum(2, 2, 4));
    }

    private static void withZero() {
        int[][] calls = {{5, 5, 0}, {5, 0, 5}, {0, 0, 5}, {0, 5, 0}, {0, 5, 5}, {5, 5, 5}, {4, 5, 0}, {1, 1, 5}};
        int[] due = {240, 240, 240, 240, 0, 0, 240, 1};
        for (int i = 0; i < calls.length; i++) {
            int[] call = calls[i];
            String what = "sum(" + call[0] + ", " + call[1] + ", " + call[2] + ")";
            Wheel x = new Wheel();
            Setups.mixed(x);
            Checks.same(what, x.sum(call[0], call[1], call[2]), due[i]);
            Checks.same(what + ", size", x.size(call[0]), due[i]);
            Checks.state(what, y -> {
                Setups.mixed(y);
                y.sum(call[0], call[1], call[2]);
            });
        }
    }

    private static void refusesNaturals() {
        for (int natural : Setups.NO_INDEX) {
            String bad = Integer.toString(natural);
            Checks.refused("sum(" + bad + ", 1, 3)", Checks.OUTSIDE, Setups::mixed, x -> x.sum(natural, 1, 3));
            Checks.refused("sum(0, " + bad + ", 3)", Checks.OUTSIDE, Setups::mixed, x -> x.sum(0, natural, 3));
            Checks.refused("sum(0, 1, " + bad + ")", Checks.OUTSIDE, Setups::mixed, x -> x.sum(0, 1, natural));
            Checks.refused("sum(0, 5, " + bad + ")", Checks.OUTSIDE, Setups::mixed, x -> x.sum(0, 5, natural));
            Checks.refused("sum(" + bad + ", 5, 5)", Checks.OUTSIDE, Setups::mixed, x -> x.sum(natural, 5, 5));
        }
    }

    /** Natural 0 of the setup is the greatest that there is, and natural 4 half of one more. */
    private static void refusesTooMany() {
        int[][] calls = {{0, 0, 1}, {1, 0, 1}, {5, 0, 1}, {1, 1, 0}, {5, 4, 4}, {4, 4, 4}, {5, 0, 0}, {0, 0, 0},
            {0, 0, 4}, {2, 4, 0}, {3, 0, 3}};
        for (int[] call : calls) {
            String what = "sum(" + call[0] + ", " + call[1] + ", " + call[2] + ")";
            Checks.refused(what, Checks.NO_ROOM, Setups::mixed, x -> x.sum(call[0], call[1], call[2]));
        }
        Checks.refused("the highest words alone are too great", Checks.NO_ROOM, SumTest::highestWords, x -> x.sum(2, 0, 1));
        Checks.refused("the greatest highest word, twice", Checks.NO_ROOM, SumTest::highestWords, x -> x.sum(0, 0, 0));
    }

    private static void highestWords(Machine x) {
        x.word(0, 239, -1);
        x.word(1, 239, 1);
    }

    private static void naturalStandsFirst() {
        for (int natural : Setups.NO_INDEX) {
            String bad = Integer.toString(natural);
            Checks.refused("sum(" + bad + ", 0, 0)", Checks.OUTSIDE, Setups::mixed, x -> x.sum(natural, 0, 0));
            Checks.refused("sum(" + bad + ", 4, 4)", Checks.OUTSIDE, Setups::mixed, x -> x.sum(natural, 4, 4));
            Checks.refused("sum(0, " + bad + ", 0)", Checks.OUTSIDE, Setups::mixed, x -> x.sum(0, natural, 0));
            Checks.refused("sum(0, 0, " + bad + ")", Checks.OUTSIDE, Setups::mixed, x -> x.sum(0, 0, natural));
        }
    }
}
