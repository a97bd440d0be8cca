/** The document's face, so that one run of calls can be made both on the class and on the slow Model. */
interface Machine {
    long field(long p);

    long times(long a, long b);

    long power(long a, long e);

    long inverse(long a);

    boolean put(int row, int k, long v);

    long get(int row, int k);

    int length(int row);

    void turn(int row, int n, boolean back);

    int product(int to, int a, int b);

    long at(int row, long x);

    boolean word(int natural, int k, long v);

    long wordAt(int natural, int k);

    int size(int natural);

    int multiply(int to, int a, int b);

    int sum(int to, int a, int b);

    /** A call by its name; a boolean counts 1 or 0, given or answered, and no answer counts 0. */
    default long call(String name, long a, long b, long c) {
        switch (name) {
            case "field": return field(a);
            case "times": return times(a, b);
            case "power": return power(a, b);
            case "inverse": return inverse(a);
            case "put": return put((int) a, (int) b, c) ? 1 : 0;
            case "get": return get((int) a, (int) b);
            case "length": return length((int) a);
            case "turn": turn((int) a, (int) b, c == 1); return 0;
            case "product": return product((int) a, (int) b, (int) c);
            case "at": return at((int) a, b);
            case "word": return word((int) a, (int) b, c) ? 1 : 0;
            case "wordAt": return wordAt((int) a, (int) b);
            case "size": return size((int) a);
            case "multiply": return multiply((int) a, (int) b, (int) c);
            default: return sum((int) a, (int) b, (int) c);
        }
    }
}
