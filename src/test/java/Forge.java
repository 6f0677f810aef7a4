/**
 * Brings CIPHERS with wanted PARTS about by calls of the face alone, so that tests meet the ends of the
 * arithmetic exactly, where drawn numbers hardly ever lie. It keeps PLAINS 6 and 7 and CIPHERS 12 to 14.
 */
final class Forge {
    private static final int DIGITS = 6;
    private static final int BASE = 7;
    private static final int SUM = 12;
    private static final int PRODUCT = 13;
    private static final int SOURCE = 14;

    private final Desk x;
    private final int n;
    private final int t;
    private final long base;
    private final long[] held;

    /** There must be KEYS, and PLAINS 6 and 7 must be 0. */
    Forge(Desk x) {
        this.x = x;
        n = x.count(1);
        t = x.count(2);
        base = t - 1;
        held = new long[n];
        x.set(BASE, 0, t - 1);
        x.seal(SOURCE, DIGITS);
    }

    /** CIPHER c becomes (row, 0), as sums of D times a PLAIN. */
    void first(int c, long[] row) {
        x.join(c, 1, SOURCE, SOURCE);
        long[] inD = Rows.scaled(row, Rows.inverse(Rows.Q / t));
        for (long place = placeOfGreatest(inD); place > 0; place /= base) {
            holdDigits(inD, place);
            x.plain(c, 1, c, BASE);
            x.plain(c, 0, c, DIGITS);
        }
    }

    /** CIPHER c becomes row times CIPHER source, PART by PART. */
    void multiple(int c, int source, long[] row) {
        x.join(c, 1, source, source);
        for (long place = placeOfGreatest(row); place > 0; place /= base) {
            holdDigits(row, place);
            x.plain(c, 1, c, BASE);
            x.plain(PRODUCT, 1, source, DIGITS);
            x.join(c, 0, c, PRODUCT);
        }
    }

    /** CIPHER c becomes (first, second). */
    void both(int c, long[] first, long[] second) {
        long[] factor = Rows.times(second, Rows.inverse(x.partRow(SOURCE, 1, n)));
        long[] unwanted = Rows.times(x.partRow(SOURCE, 0, n), factor);
        multiple(c, SOURCE, factor);
        first(SUM, Rows.minus(first, unwanted));
        x.join(c, 0, c, SUM);
    }

    /** CIPHER c becomes (0, 1). */
    void secondUnit(int c) {
        both(c, new long[n], Rows.constant(n, 1));
    }

    /** CIPHER c becomes (0, 0, 1), unit being (0, 1): T D 1 / Q is rounded to 1. */
    void thirdUnit(int c, int unit) {
        multiple(SUM, unit, Rows.constant(n, Rows.Q / t));
        x.join(c, 2, SUM, unit);
    }

    private long placeOfGreatest(long[] row) {
        long greatest = 0;
        for (long coefficient : row) {
            greatest = Math.max(greatest, coefficient);
        }
        long place = 1;
        while (place * base <= greatest) {
            place *= base;
        }
        return place;
    }

    private void holdDigits(long[] row, long place) {
        for (int i = 0; i < n; i++) {
            long digit = row[i] / place % base;
            if (held[i] != digit) {
                held[i] = digit;
                x.set(DIGITS, i, (int) digit);
            }
        }
    }
}
