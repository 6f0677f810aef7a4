/** A RingCipher whose calls are counted: a test must not lean on what is answered after the 512th. */
final class Desk implements Face {
    static final int MOST_CALLS = 512;

    private final RingCipher ours = new RingCipher();
    private int calls = 0;

    int calls() {
        return calls;
    }

    @Override
    public int begin(int kind, int seed) {
        return next().begin(kind, seed);
    }

    @Override
    public int keys() {
        return next().keys();
    }

    @Override
    public int turnKey(int g) {
        return next().turnKey(g);
    }

    @Override
    public int set(int p, int i, int v) {
        return next().set(p, i, v);
    }

    @Override
    public int get(int p, int i) {
        return next().get(p, i);
    }

    @Override
    public int batch(int p, boolean back) {
        return next().batch(p, back);
    }

    @Override
    public int seal(int c, int p) {
        return next().seal(c, p);
    }

    @Override
    public int open(int p, int c) {
        return next().open(p, c);
    }

    @Override
    public int join(int to, int op, int a, int b) {
        return next().join(to, op, a, b);
    }

    @Override
    public int plain(int to, int op, int a, int p) {
        return next().plain(to, op, a, p);
    }

    @Override
    public int shrink(int to, int a) {
        return next().shrink(to, a);
    }

    @Override
    public int turn(int to, int a, int g) {
        return next().turn(to, a, g);
    }

    @Override
    public int part(int c, int k, int i) {
        return next().part(c, k, i);
    }

    @Override
    public int about(int c, int what) {
        return next().about(c, what);
    }

    @Override
    public int drop(int c) {
        return next().drop(c);
    }

    @Override
    public int count(int what) {
        return next().count(what);
    }

    /** All coefficients of a PART, read one by one. */
    long[] partRow(int c, int k, int n) {
        long[] row = new long[n];
        for (int i = 0; i < n; i++) {
            row[i] = part(c, k, i);
        }
        return row;
    }

    /** All coefficients of a PLAIN, read one by one. */
    long[] plainRow(int p, int n) {
        long[] row = new long[n];
        for (int i = 0; i < n; i++) {
            row[i] = get(p, i);
        }
        return row;
    }

    private RingCipher next() {
        calls++;
        if (calls > MOST_CALLS) {
            throw new AssertionError("a test made more than 512 calls on one object");
        }
        return ours;
    }
}
