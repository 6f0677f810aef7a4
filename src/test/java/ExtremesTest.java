import java.math.BigInteger;

/** Rows that are all at an end of the CENTRED range: the greatest sums of products that there can be. */
public final class ExtremesTest {
    private static final BigInteger Q = BigInteger.valueOf(Rows.Q);
    private static final long HALF = Rows.HALF;

    private final Expect expect;
    private final int kind;
    private final Desk x = new Desk();
    private final int n;
    private final int t;
    private final Forge forge;

    private ExtremesTest(Expect expect, int kind) {
        this.expect = expect;
        this.kind = kind;
        n = x.begin(kind, 99);
        t = x.count(2);
        x.keys();
        forge = new Forge(x);
    }

    public static void main(String[] args) {
        Expect expect = new Expect();
        for (int kind = 0; kind < 3; kind++) {
            for (long noise : new long[] {HALF, -HALF}) {
                new ExtremesTest(expect, kind).greatestNoise(noise);
            }
            for (long first : new long[] {HALF, -HALF}) {
                for (long second : new long[] {HALF, -HALF}) {
                    new ExtremesTest(expect, kind).greatestSquare(first, second);
                }
            }
        }
        expect.finish();
    }

    private void greatestNoise(long noise) {
        forge.first(0, Rows.filled(n, Rows.times(noise, Rows.inverse(t))));
        due("the greatest NOISE", x.about(0, 2), HALF);
        due("its BUDGET", x.about(0, 1), 0);
        due("opening answers it", x.open(0, 0), 0);
    }

    private void greatestSquare(long first, long second) {
        forge.both(0, Rows.filled(n, first), Rows.filled(n, second));
        expect.row("built", x.partRow(0, 1, n), Rows.filled(n, second));
        due("PARTS", x.join(0, 2, 0, 0), 3);
        checkPart(0, BigInteger.valueOf(first * first));
        checkPart(1, BigInteger.valueOf(first * second).shiftLeft(1));
        checkPart(2, BigInteger.valueOf(second * second));
    }

    /** Coefficient i of a square of equal numbers has i + 1 products, less the N - 1 - i that wrapped around. */
    private void checkPart(int k, BigInteger product) {
        for (int i = 0; i < n; i++) {
            BigInteger sum = product.multiply(BigInteger.valueOf(2L * i + 2 - n));
            due("PART " + k + ", coefficient " + i, x.part(0, k, i), Rows.rounded(sum, t).mod(Q).longValueExact());
        }
    }

    private void due(String what, long got, long want) {
        expect.due("KIND " + kind + ": " + what, got, want);
    }
}
