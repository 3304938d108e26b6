/** An object of the class with its calls counted, as the document owes answers for 512 of them alone. */
final class Counted implements Face {
    static final int MOST_CALLS = 512;

    private final MergeRows x = new MergeRows();
    private int calls = 0;

    private MergeRows next() {
        calls++;
        if (calls > MOST_CALLS) {
            throw new AssertionError("the test does more than " + MOST_CALLS + " calls on one object");
        }
        return x;
    }

    boolean hasCallsLeft() {
        return calls < MOST_CALLS;
    }

    @Override
    public int put(int row, int line) {
        return next().put(row, line);
    }

    @Override
    public int clear(int row) {
        next().clear(row);
        return 0;
    }

    @Override
    public int size(int row) {
        return next().size(row);
    }

    @Override
    public int get(int row, int k) {
        return next().get(row, k);
    }

    @Override
    public int common(int a, int b) {
        return next().common(a, b);
    }

    @Override
    public int pair(int k, int side) {
        return next().pair(k, side);
    }

    @Override
    public int hunks(int a, int b) {
        return next().hunks(a, b);
    }

    @Override
    public int hunk(int k, int what) {
        return next().hunk(k, what);
    }

    @Override
    public int merge(int base, int left, int right, int to) {
        return next().merge(base, left, right, to);
    }

    @Override
    public int conflict(int k, int what) {
        return next().conflict(k, what);
    }

    @Override
    public int patch(int a, int b, int c, int to) {
        return next().patch(a, b, c, to);
    }

    @Override
    public int commit(int row) {
        return next().commit(row);
    }

    @Override
    public int origin(int version, int k) {
        return next().origin(version, k);
    }
}
