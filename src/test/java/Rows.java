import java.math.BigInteger;

/** POLYNOMIALS modulo Q and x^N + 1, for what the tests await. */
final class Rows {
    static final long Q = 268_435_399L;
    static final long HALF = (Q - 1) / 2;

    private Rows() {
    }

    static long[] constant(int n, long value) {
        return single(n, 0, value);
    }

    /** value x^i. */
    static long[] single(int n, int i, long value) {
        long[] row = new long[n];
        row[i] = Math.floorMod(value, Q);
        return row;
    }

    static long[] filled(int n, long value) {
        long[] row = new long[n];
        java.util.Arrays.fill(row, Math.floorMod(value, Q));
        return row;
    }

    static long[] plus(long[] a, long[] b) {
        long[] sum = new long[a.length];
        for (int i = 0; i < sum.length; i++) {
            sum[i] = Math.floorMod(a[i] + b[i], Q);
        }
        return sum;
    }

    static long[] scaled(long[] a, long factor) {
        long[] made = new long[a.length];
        for (int i = 0; i < made.length; i++) {
            made[i] = times(a[i], factor);
        }
        return made;
    }

    static long[] minus(long[] a, long[] b) {
        return plus(a, scaled(b, -1));
    }

    static long[] times(long[] a, long[] b) {
        int n = a.length;
        long[] made = new long[n];
        for (int i = 0; i < n; i++) {
            for (int j = 0; j < n; j++) {
                long product = times(a[i], b[j]);
                int place = (i + j) % n;
                made[place] = Math.floorMod(i + j < n ? made[place] + product : made[place] - product, Q);
            }
        }
        return made;
    }

    /** x^g for x. */
    static long[] at(long[] a, int g) {
        int n = a.length;
        long[] made = new long[n];
        for (int i = 0; i < n; i++) {
            boolean turnedRoundOddly = g * i / n % 2 != 0;
            made[g * i % n] = Math.floorMod(turnedRoundOddly ? -a[i] : a[i], Q);
        }
        return made;
    }

    /** Digit k in base 32 of every coefficient. */
    static long[] digit(long[] a, int k) {
        long[] made = new long[a.length];
        long place = 1;
        for (int i = 0; i < k; i++) {
            place *= 32;
        }
        for (int i = 0; i < made.length; i++) {
            made[i] = a[i] / place % 32;
        }
        return made;
    }

    static long times(long a, long b) {
        return Math.floorMod(Math.floorMod(a, Q) * Math.floorMod(b, Q), Q);
    }

    static long inverse(long a) {
        return BigInteger.valueOf(a).modInverse(BigInteger.valueOf(Q)).longValueExact();
    }

    static long centred(long a) {
        long rest = Math.floorMod(a, Q);
        return rest <= HALF ? rest : rest - Q;
    }

    /** T x / Q, rounded, a half upwards. */
    static BigInteger rounded(BigInteger x, int t) {
        BigInteger q = BigInteger.valueOf(Q);
        BigInteger above = x.multiply(BigInteger.valueOf(2L * t)).add(q);
        BigInteger below = q.shiftLeft(1);
        return above.subtract(above.mod(below)).divide(below);
    }

    /** The row whose product with a is 1; a must have one. */
    static long[] inverse(long[] a) {
        int n = a.length;
        long[][] table = new long[n][];
        for (int i = 0; i < n; i++) {
            table[i] = new long[n + 1];
            for (int j = 0; j < n; j++) {
                table[i][j] = j <= i ? a[i - j] : Math.floorMod(-a[n + i - j], Q);
            }
        }
        table[0][n] = 1;
        for (int j = 0; j < n; j++) {
            clearColumn(table, j);
        }
        long[] made = new long[n];
        for (int i = 0; i < n; i++) {
            made[i] = table[i][n];
        }
        return made;
    }

    private static void clearColumn(long[][] table, int j) {
        int pivot = j;
        while (table[pivot][j] == 0) {
            pivot++;
        }
        long[] top = scaled(table[pivot], inverse(table[pivot][j]));
        table[pivot] = table[j];
        table[j] = top;
        for (int i = 0; i < table.length; i++) {
            if (i != j) {
                table[i] = minus(table[i], scaled(top, table[i][j]));
            }
        }
    }
}
