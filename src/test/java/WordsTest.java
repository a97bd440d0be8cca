/** Part 3 of "Terms", and promises 12 to 14: word, wordAt, size. */
public final class WordsTest {
    private static final long FULL = 4294967295L;
    private static final int[] NO_WORD = {Integer.MIN_VALUE, -240, -1, 240, 241, 511, Integer.MAX_VALUE};

    public static void main(String[] args) {
        Checks.sentence("Terms 3: NATURALS 0 .. 5", WordsTest::sixNaturals);
        Checks.sentence("Terms 3: WORDS of 32 bits", WordsTest::wordsOf32Bits);
        Checks.sentence("Terms 3: the lowest one 0, at most 240", WordsTest::allWords);
        Checks.sentence("Terms 3: the lowest one 0: words carry upwards", WordsTest::lowestFirst);
        Checks.sentence("Terms 3: all 0 at first", WordsTest::allZeroAtFirst);
        Checks.sentence("Terms 3: SIZE is one more than the greatest number", WordsTest::sizeOfEach);
        Checks.sentence("Terms 3: SIZE is 0 without one", WordsTest::sizeWithoutOne);
        Checks.sentence("Promise 12: whether it is another one than before", WordsTest::wordTellsWhetherAnother);
        Checks.sentence("Promise 12: its lowest 32 bits", WordsTest::lowest32Bits);
        Checks.sentence("Promise 12: refused: no such natural", WordsTest::wordRefusesNaturals);
        Checks.sentence("Promise 12: refused: no such word", WordsTest::wordRefusesWords);
        Checks.sentence("Promise 13: 0 .. 4294967295", WordsTest::wordAtTells);
        Checks.sentence("Promise 13: refused: no such natural", WordsTest::wordAtRefusesNaturals);
        Checks.sentence("Promise 13: refused: no such word", WordsTest::wordAtRefusesWords);
        Checks.sentence("Promise 14: the size follows each change", WordsTest::sizeFollows);
        Checks.sentence("Promise 14: refused: no such natural", WordsTest::sizeRefuses);
        Checks.end();
    }

    private static void sixNaturals() {
        Wheel x = new Wheel();
        for (int natural = 0; natural < 6; natural++) {
            Checks.same("word of natural " + natural, x.word(natural, 3, 10 + natural), true);
        }
        for (int natural = 0; natural < 6; natural++) {
            Checks.same("natural " + natural, x.wordAt(natural, 3), 10 + natural);
            Checks.same("size of natural " + natural, x.size(natural), 4);
            Checks.same("rows are others", x.length(natural), 0);
        }
        Checks.thrown("natural -1", Checks.OUTSIDE, () -> x.wordAt(-1, 3));
        Checks.thrown("natural 6", Checks.OUTSIDE, () -> x.wordAt(6, 3));
    }

    private static void wordsOf32Bits() {
        Wheel x = new Wheel();
        for (int bit = 0; bit < 64; bit++) {
            x.word(0, 0, 1L << bit);
            Checks.same("bit " + bit, x.wordAt(0, 0), bit < 32 ? 1L << bit : 0);
        }
        Checks.same("the next word has none of it", x.wordAt(0, 1), 0);
    }

    private static void allWords() {
        for (int natural = 0; natural < 6; natural++) {
            Wheel x = new Wheel();
            for (int k = 0; k < 240; k++) {
                Checks.same("word " + k, x.word(natural, k, FULL - k), true);
            }
            for (int k = 0; k < 240; k++) {
                Checks.same("word " + k, x.wordAt(natural, k), FULL - k);
            }
        }
        Checks.thrown("word -1", Checks.OUTSIDE, () -> new Wheel().wordAt(0, -1));
        Checks.thrown("word 240", Checks.OUTSIDE, () -> new Wheel().wordAt(0, 240));
    }

    private static void lowestFirst() {
        Wheel x = new Wheel();
        x.word(0, 0, -1);
        x.word(1, 0, 1);
        Checks.same("size of 2 to the 32", x.sum(2, 0, 1), 2);
        Checks.same("its word 0", x.wordAt(2, 0), 0);
        Checks.same("its word 1", x.wordAt(2, 1), 1);
    }

    private static void allZeroAtFirst() {
        for (int natural = 0; natural < 6; natural++) {
            Wheel x = new Wheel();
            Checks.same("size of natural " + natural, x.size(natural), 0);
            for (int k = 0; k < 240; k++) {
                Checks.same("natural " + natural + ", word " + k, x.wordAt(natural, k), 0);
            }
        }
    }

    private static void sizeOfEach() {
        for (int k = 0; k < 240; k++) {
            Wheel x = new Wheel();
            x.word(4, k, k % 2 == 0 ? 1 : 1L << 31);
            Checks.same("size with word " + k + " alone", x.size(4), k + 1);
            x.word(4, 0, 1);
            Checks.same("size with words 0 and " + k, x.size(4), k + 1);
            Checks.same("size of the natural before", x.size(3), 0);
            Checks.same("size of the natural behind", x.size(5), 0);
        }
    }

    private static void sizeWithoutOne() {
        Wheel x = new Wheel();
        Checks.same("at first", x.size(0), 0);
        x.word(0, 239, 1L << 32);
        Checks.same("its lowest 32 bits are 0", x.size(0), 0);
        x.word(0, 0, Long.MIN_VALUE);
        Checks.same("its lowest 32 bits are 0", x.size(0), 0);
        x.word(0, 0, 1);
        x.word(0, 0, 0);
        Checks.same("after 1 and 0", x.size(0), 0);
    }

    private static void wordTellsWhetherAnother() {
        Wheel x = new Wheel();
        for (int k : new int[] {0, 1, 238, 239}) {
            Checks.same("0 on 0", x.word(0, k, 0), false);
            Checks.same("1 on 0", x.word(0, k, 1), true);
            Checks.same("1 on 1", x.word(0, k, 1), false);
            Checks.same("greatest on 1", x.word(0, k, FULL), true);
            Checks.same("greatest on greatest", x.word(0, k, FULL), false);
            Checks.same("one less", x.word(0, k, FULL - 1), true);
            Checks.same("0 on it", x.word(0, k, 0), true);
            Checks.same("0 on 0 again", x.word(0, k, 0), false);
        }
        Checks.state("one word alone becomes another", y -> {
            Setups.mixed(y);
            y.word(0, 100, 77);
        });
        Checks.state("a natural that is 0", y -> {
            Setups.mixed(y);
            y.word(5, 239, 1);
        });
    }

    private static void lowest32Bits() {
        Wheel x = new Wheel();
        Checks.same("2 to the 32 on 0", x.word(5, 239, 1L << 32), false);
        Checks.same("least long on 0", x.word(5, 239, Long.MIN_VALUE), false);
        Checks.same("-1 on 0", x.word(5, 239, -1), true);
        Checks.same("-1", x.wordAt(5, 239), FULL);
        Checks.same("greatest on -1", x.word(5, 239, FULL), false);
        Checks.same("greatest long on -1", x.word(5, 239, Long.MAX_VALUE), false);
        Checks.same("2 to the 32 less 1, and bits above", x.word(5, 239, (5L << 32) + FULL), false);
        Checks.same("2 to the 31", x.word(5, 239, 1L << 31), true);
        Checks.same("2 to the 31", x.wordAt(5, 239), 2147483648L);
        Checks.same("least int on 2 to the 31", x.word(5, 239, Integer.MIN_VALUE), false);
        Checks.same("2 to the 31 less 1", x.word(5, 239, Integer.MAX_VALUE), true);
        Checks.same("2 to the 31 less 1", x.wordAt(5, 239), 2147483647L);
        Checks.same("7 and bits above", x.word(5, 239, (5L << 32) + 7), true);
        Checks.same("7 and bits above", x.wordAt(5, 239), 7);
        Checks.same("7 on it", x.word(5, 239, 7), false);
        Checks.same("2 to the 32 and 1 more", x.word(5, 239, (1L << 32) + 1), true);
        Checks.same("2 to the 32 and 1 more", x.wordAt(5, 239), 1);
    }

    private static void wordRefusesNaturals() {
        for (int natural : Setups.NO_INDEX) {
            Checks.refused("word(" + natural + ", 0, 5)", Checks.OUTSIDE, Setups::mixed, x -> x.word(natural, 0, 5));
            Checks.thrown("word(" + natural + ", 240, 5)", Checks.OUTSIDE, () -> new Wheel().word(natural, 240, 5));
        }
    }

    private static void wordRefusesWords() {
        for (int k : NO_WORD) {
            for (int natural : new int[] {0, 1, 5}) {
                String what = "word(" + natural + ", " + k + ", 5)";
                Checks.refused(what, Checks.OUTSIDE, Setups::mixed, x -> x.word(natural, k, 5));
            }
        }
    }

    private static void wordAtTells() {
        Wheel x = new Wheel();
        x.word(0, 0, -1);
        x.word(0, 239, 1L << 31);
        x.word(5, 0, 7);
        x.word(5, 239, FULL - 1);
        Checks.same("natural 0, word 0", x.wordAt(0, 0), 4294967295L);
        Checks.same("natural 0, word 239", x.wordAt(0, 239), 2147483648L);
        Checks.same("natural 5, word 0", x.wordAt(5, 0), 7);
        Checks.same("natural 5, word 239", x.wordAt(5, 239), 4294967294L);
        Checks.same("natural 0, word 1", x.wordAt(0, 1), 0);
        Checks.same("natural 4, word 239", x.wordAt(4, 239), 0);
        Checks.state("wordAt changes nothing", y -> {
            Setups.mixed(y);
            y.wordAt(0, 239);
        });
    }

    private static void wordAtRefusesNaturals() {
        for (int natural : Setups.NO_INDEX) {
            Checks.refused("wordAt(" + natural + ", 0)", Checks.OUTSIDE, Setups::mixed, x -> x.wordAt(natural, 0));
            Checks.thrown("wordAt(" + natural + ", -1)", Checks.OUTSIDE, () -> new Wheel().wordAt(natural, -1));
        }
    }

    private static void wordAtRefusesWords() {
        for (int k : NO_WORD) {
            for (int natural : new int[] {0, 1, 5}) {
                String what = "wordAt(" + natural + ", " + k + ")";
                Checks.refused(what, Checks.OUTSIDE, Setups::mixed, x -> x.wordAt(natural, k));
            }
        }
    }

    private static void sizeFollows() {
        Wheel x = new Wheel();
        x.word(2, 239, 1L << 31);
        x.word(2, 100, 1);
        Checks.same("full", x.size(2), 240);
        x.word(2, 239, 1L << 32);
        Checks.same("the last became 0", x.size(2), 101);
        x.word(2, 0, -1);
        Checks.same("a lesser one", x.size(2), 101);
        x.word(2, 100, 0);
        Checks.same("the next became 0", x.size(2), 1);
        x.sum(2, 2, 2);
        Checks.same("twice", x.size(2), 2);
        x.multiply(2, 2, 2);
        Checks.same("its square", x.size(2), 3);
        x.multiply(2, 2, 0);
        Checks.same("times 0", x.size(2), 0);
        Checks.state("size changes nothing", y -> {
            Setups.mixed(y);
            y.size(0);
            y.size(5);
        });
    }

    private static void sizeRefuses() {
        for (int natural : Setups.NO_INDEX) {
            Checks.refused("size(" + natural + ")", Checks.OUTSIDE, Setups::mixed, x -> x.size(natural));
        }
    }
}
