import java.math.BigInteger;

/** Coefficients at the very ends of the CENTRED range, which drawn numbers hardly ever reach. */
public final class ExtremesTest {
    private static final BigInteger Q = BigInteger.valueOf(268_435_399L);
    private static final BigInteger HALF = Q.shiftRight(1);

    private final Expect expect;
    private final int kind;
    private final int n;
    private final BigInteger t;
    private final RingCipher x = new RingCipher();

    private ExtremesTest(Expect expect, int kind) {
        this.expect = expect;
        this.kind = kind;
        n = x.begin(kind, 99);
        t = BigInteger.valueOf(x.count(2));
        x.keys();
    }

    public static void main(String[] args) {
        Expect expect = new Expect();
        for (int kind = 0; kind < 3; kind++) {
            new ExtremesTest(expect, kind).greatestNoise(HALF);
            new ExtremesTest(expect, kind).greatestNoise(HALF.negate());
            new ExtremesTest(expect, kind).greatestProduct(HALF);
            new ExtremesTest(expect, kind).greatestProduct(HALF.negate());
        }
        expect.finish();
    }

    /** CIPHER 0 gets this first PART in every coefficient and nothing else, by adding and multiplying D alone. */
    private void build(BigInteger coefficient) {
        BigInteger d = Q.divide(t);
        int rest = coefficient.multiply(d.modInverse(Q)).mod(Q).intValueExact();
        int base = x.count(2) - 1;
        x.seal(0, 0);
        x.join(0, 1, 0, 0);
        x.set(1, 0, base);
        int place = 1;
        while ((long) place * base <= rest) {
            place *= base;
        }
        for (; place > 0; place /= base) {
            for (int i = 0; i < n; i++) {
                x.set(0, i, rest / place % base);
            }
            x.plain(0, 1, 0, 1);
            x.plain(0, 0, 0, 0);
        }
        for (int i = 0; i < n; i++) {
            due("built", x.part(0, 0, i), coefficient.mod(Q));
        }
    }

    private void greatestNoise(BigInteger noise) {
        build(noise.multiply(t.modInverse(Q)));
        due("the greatest NOISE", x.about(0, 2), HALF);
        due("its BUDGET", x.about(0, 1), BigInteger.ZERO);
        due("opening answers it", x.open(7, 0), BigInteger.ZERO);
    }

    private void greatestProduct(BigInteger coefficient) {
        build(coefficient);
        due("parts", x.join(1, 2, 0, 0), BigInteger.valueOf(3));
        BigInteger square = HALF.multiply(HALF);
        for (int i = 0; i < n; i++) {
            BigInteger sum = square.multiply(BigInteger.valueOf(2L * i + 2 - n));
            BigInteger scaled = floorOfHalves(t.multiply(sum).shiftLeft(1).add(Q));
            due("the product's coefficient " + i, x.part(1, 0, i), scaled.mod(Q));
            due("second part", x.part(1, 1, i), BigInteger.ZERO);
        }
    }

    private static BigInteger floorOfHalves(BigInteger above) {
        BigInteger below = Q.shiftLeft(1);
        return above.subtract(above.mod(below)).divide(below);
    }

    private void due(String what, long got, BigInteger want) {
        expect.due("KIND " + kind + ": " + what, got, want.longValueExact());
    }
}
