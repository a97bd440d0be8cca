/**
 * All that an object can tell after some calls. It takes more looks than one object is promised to
 * answer, so the same calls are made on as many new objects as it takes.
 */
final class State {
    interface Calls {
        void on(Machine x);
    }

    private static final int ROWS = 6 * 512;
    private static final int NATURALS = 6 * 240;
    private static final int LENGTHS = 6;
    private static final int SIZES = 6;
    private static final int LOOKS = 1 + ROWS + NATURALS + LENGTHS + SIZES;

    /** One more than the looks, for the root, which shows only in a turn. */
    private final long[] numbers = new long[LOOKS + 1];

    private State() {
    }

    static State after(Calls calls) {
        State state = new State();
        int look = 0;
        while (look < LOOKS) {
            Wheel x = new Wheel();
            calls.on(x);
            if (x.callsLeft() == 0) {
                throw new AssertionError("the calls leave none to look with");
            }
            while (look < LOOKS && x.callsLeft() > 0) {
                state.numbers[look] = seen(x, look);
                look++;
            }
        }
        Wheel x = new Wheel();
        calls.on(x);
        state.numbers[LOOKS] = turnedWheel(x);
        return state;
    }

    static State dueAfter(Calls calls) {
        State state = new State();
        Model x = new Model();
        calls.on(x);
        for (int look = 0; look < LOOKS; look++) {
            state.numbers[look] = seen(x, look);
        }
        state.numbers[LOOKS] = turnedWheel(x);
        return state;
    }

    private static long seen(Machine x, int look) {
        int k = look - 1;
        if (k < 0) {
            return x.times(-1, 1) + 1;
        }
        if (k < ROWS) {
            return x.get(k / 512, k % 512);
        }
        k -= ROWS;
        if (k < NATURALS) {
            return x.wordAt(k / 240, k % 240);
        }
        k -= NATURALS;
        return k < LENGTHS ? x.length(k) : x.size(k - LENGTHS);
    }

    private static String told(int look) {
        int k = look - 1;
        if (k < 0) {
            return "the prime";
        }
        if (k < ROWS) {
            return "row " + k / 512 + ", coefficient " + k % 512;
        }
        k -= ROWS;
        if (k < NATURALS) {
            return "natural " + k / 240 + ", word " + k % 240;
        }
        k -= NATURALS;
        if (k < LENGTHS) {
            return "length of row " + k;
        }
        return k < LENGTHS + SIZES ? "size of natural " + (k - LENGTHS) : "a turn by 512";
    }

    private static long turnedWheel(Machine x) {
        x.put(0, 1, 7);
        x.turn(0, 512, false);
        return x.get(0, 1);
    }

    /** Where the first difference is, or null without one. */
    String difference(State due) {
        for (int look = 0; look <= LOOKS; look++) {
            if (numbers[look] != due.numbers[look]) {
                return told(look) + " is " + numbers[look] + ", due is " + due.numbers[look];
            }
        }
        return null;
    }

    long prime() {
        return numbers[0];
    }

    long coefficient(int row, int k) {
        return numbers[1 + 512 * row + k];
    }

    long word(int natural, int k) {
        return numbers[1 + ROWS + 240 * natural + k];
    }
}
