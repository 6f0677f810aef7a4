import java.math.BigInteger;

/** The document's CHANCE once more, without sign in a long, for what the tests await. */
final class Draws {
    private static final long MODULUS = 1L << 32;
    private static final long FACTOR = 1_664_525L;
    private static final long STEP = 1_013_904_223L;

    private long chance;

    Draws(int seed) {
        chance = Integer.toUnsignedLong(seed);
    }

    /** The seed from which so many DRAWS lead to this CHANCE. */
    static int seedBefore(long chance, int draws) {
        BigInteger modulus = BigInteger.valueOf(MODULUS);
        BigInteger inverse = BigInteger.valueOf(FACTOR).modInverse(modulus);
        BigInteger before = BigInteger.valueOf(chance);
        for (int i = 0; i < draws; i++) {
            before = before.subtract(BigInteger.valueOf(STEP)).multiply(inverse).mod(modulus);
        }
        return before.intValue();
    }

    /** A CHANCE whose next two DRAWS make this number, or -1 where no CHANCE does. */
    static long chanceBeforePair(long number) {
        long first = number / 65_536;
        for (long low = 0; low < 65_536; low++) {
            int seed = seedBefore(first * 65_536 + low, 1);
            Draws draws = new Draws(seed);
            if (65_536 * draws.draw() + draws.draw() == number) {
                return Integer.toUnsignedLong(seed);
            }
        }
        return -1;
    }

    /** How many DRAWS KEYS take: s, then seven pairs of N UNIFORM (two DRAWS each) and N ERROR. */
    static int ofKeys(int n) {
        return n + 7 * 3 * n;
    }

    long draw() {
        chance = (FACTOR * chance + STEP) % MODULUS;
        return chance / 65_536;
    }

    long chance() {
        return chance;
    }

    Draws skip(int draws) {
        for (int i = 0; i < draws; i++) {
            draw();
        }
        return this;
    }

    long[] ternary(int n) {
        long[] row = new long[n];
        for (int i = 0; i < n; i++) {
            row[i] = draw() % 3 - 1;
        }
        return row;
    }

    long[] error(int n) {
        long[] row = new long[n];
        for (int i = 0; i < n; i++) {
            long bits = draw();
            for (int bit = 0; bit < 6; bit++) {
                long one = bits / (1L << bit) % 2;
                row[i] += bit < 3 ? one : -one;
            }
        }
        return row;
    }

    long[] uniform(int n) {
        long[] row = new long[n];
        for (int i = 0; i < n; i++) {
            long upper = draw();
            row[i] = (65_536 * upper + draw()) % Rows.Q;
        }
        return row;
    }
}
