/** A RingCipher whose calls are counted: a test must not lean on what is answered after the 512th. */
final class Desk {
    static final int MOST_CALLS = 512;

    private final RingCipher ours = new RingCipher();
    private int calls = 0;

    int calls() {
        return calls;
    }

    int begin(int kind, int seed) {
        return next().begin(kind, seed);
    }

    int keys() {
        return next().keys();
    }

    int turnKey(int g) {
        return next().turnKey(g);
    }

    int set(int p, int i, int v) {
        return next().set(p, i, v);
    }

    int get(int p, int i) {
        return next().get(p, i);
    }

    int batch(int p, boolean back) {
        return next().batch(p, back);
    }

    int seal(int c, int p) {
        return next().seal(c, p);
    }

    int open(int p, int c) {
        return next().open(p, c);
    }

    int join(int to, int op, int a, int b) {
        return next().join(to, op, a, b);
    }

    int plain(int to, int op, int a, int p) {
        return next().plain(to, op, a, p);
    }

    int shrink(int to, int a) {
        return next().shrink(to, a);
    }

    int turn(int to, int a, int g) {
        return next().turn(to, a, g);
    }

    int part(int c, int k, int i) {
        return next().part(c, k, i);
    }

    int about(int c, int what) {
        return next().about(c, what);
    }

    int drop(int c) {
        return next().drop(c);
    }

    int count(int what) {
        return next().count(what);
    }

    /** All coefficients of a PART, read one by one. */
    long[] partRow(int c, int k, int n) {
        long[] row = new long[n];
        for (int i = 0; i < n; i++) {
            row[i] = part(c, k, i);
        }
        return row;
    }

    /** All coefficients of a PLAIN, read one by one. */
    long[] plainRow(int p, int n) {
        long[] row = new long[n];
        for (int i = 0; i < n; i++) {
            row[i] = get(p, i);
        }
        return row;
    }

    private RingCipher next() {
        calls++;
        if (calls > MOST_CALLS) {
            throw new AssertionError("a test made more than 512 calls on one object");
        }
        return ours;
    }
}
