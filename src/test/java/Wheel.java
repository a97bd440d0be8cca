/** A WheelProducts that counts its calls: no test may lean on what the document leaves free after 512. */
final class Wheel implements Machine {
    private final WheelProducts x = new WheelProducts();
    private int left = 512;

    int callsLeft() {
        return left;
    }

    private WheelProducts next() {
        if (left == 0) {
            throw new AssertionError("the test makes more than 512 calls on one object");
        }
        left--;
        return x;
    }

    @Override
    public long field(long p) {
        return next().field(p);
    }

    @Override
    public long times(long a, long b) {
        return next().times(a, b);
    }

    @Override
    public long power(long a, long e) {
        return next().power(a, e);
    }

    @Override
    public long inverse(long a) {
        return next().inverse(a);
    }

    @Override
    public boolean put(int row, int k, long v) {
        return next().put(row, k, v);
    }

    @Override
    public long get(int row, int k) {
        return next().get(row, k);
    }

    @Override
    public int length(int row) {
        return next().length(row);
    }

    @Override
    public void turn(int row, int n, boolean back) {
        next().turn(row, n, back);
    }

    @Override
    public int product(int to, int a, int b) {
        return next().product(to, a, b);
    }

    @Override
    public long at(int row, long number) {
        return next().at(row, number);
    }

    @Override
    public boolean word(int natural, int k, long v) {
        return next().word(natural, k, v);
    }

    @Override
    public long wordAt(int natural, int k) {
        return next().wordAt(natural, k);
    }

    @Override
    public int size(int natural) {
        return next().size(natural);
    }

    @Override
    public int multiply(int to, int a, int b) {
        return next().multiply(to, a, b);
    }

    @Override
    public int sum(int to, int a, int b) {
        return next().sum(to, a, b);
    }
}
