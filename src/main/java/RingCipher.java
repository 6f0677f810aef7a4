import java.util.Arrays;
import java.util.NoSuchElementException;

/** Numbers reckoned with while they are sealed; the promises stand in the document DOC.md. */
public final class RingCipher {
    private static final long Q = 268435399L;
    private static final long HALF_Q = (Q - 1) / 2;
    private static final int[] SIZES = {8, 16, 32};
    private static final int[] MODULI = {17, 97, 193};
    private static final int MOST_COEFFICIENTS = 32;
    private static final int PLAINS = 8;
    private static final int CIPHERS = 16;
    private static final int MOST_PARTS = 3;
    private static final int DIGITS = 6;
    private static final int DIGIT_BITS = 5;
    private static final long DIGIT_MASK = 31L;
    private static final int MOST_TURNS = 4;
    private static final int MOST_BUDGET = 27;

    private final Ring ring;
    private final Chance chance;
    private final KeyRing keyRing;
    private final long[][] plains;
    private final Cipher[] ciphers;
    // Every call reckons in these rows and writes its target last, so a target may also be taken.
    private final long[][] sums;
    private final long[][] rows;

    public RingCipher() {
        ring = new Ring();
        chance = new Chance();
        keyRing = new KeyRing();
        plains = new long[PLAINS][MOST_COEFFICIENTS];
        ciphers = new Cipher[CIPHERS];
        for (int c = 0; c < CIPHERS; c++) {
            ciphers[c] = new Cipher();
        }
        sums = new long[MOST_PARTS][MOST_COEFFICIENTS];
        rows = new long[4][MOST_COEFFICIENTS];
    }

    public int begin(int kind, int seed) throws IllegalArgumentException {
        if (kind < 0 || kind >= SIZES.length) {
            throw new IllegalArgumentException("no such kind");
        }
        ring.choose(kind);
        chance.restart(seed);
        keyRing.forget();
        emptyCiphers();
        for (int p = 0; p < PLAINS; p++) {
            Arrays.fill(plains[p], 0L);
        }
        return ring.n;
    }

    public int keys() {
        keyRing.renew(ring, chance);
        emptyCiphers();
        return ring.n;
    }

    public int turnKey(int g) throws IllegalArgumentException, IllegalStateException {
        if (g < 3 || g > 2 * ring.n - 1 || g % 2 == 0) {
            throw new IllegalArgumentException("no such turn");
        }
        if (!keyRing.made) {
            throw new IllegalStateException("no keys");
        }
        int place = keyRing.placeOfTurn(g);
        if (place == MOST_TURNS) {
            throw new IllegalStateException("four other turns");
        }
        keyRing.makeTurn(ring, chance, place, g);
        return keyRing.turnCount;
    }

    public int set(int p, int i, int v) throws NoSuchElementException {
        long[] row = plainAt(p);
        checkCoefficient(i);
        long before = row[i];
        row[i] = Math.floorMod(v, ring.t);
        return (int) before;
    }

    public int get(int p, int i) throws NoSuchElementException {
        long[] row = plainAt(p);
        checkCoefficient(i);
        return (int) row[i];
    }

    public int batch(int p, boolean back) throws NoSuchElementException {
        long[] row = plainAt(p);
        if (back) {
            ring.evaluate(rows[0], row);
        } else {
            ring.interpolate(rows[0], row);
        }
        System.arraycopy(rows[0], 0, row, 0, ring.n);
        return (int) row[0];
    }

    public int seal(int c, int p) throws NoSuchElementException, IllegalStateException {
        Cipher target = placeAt(c);
        long[] message = plainAt(p);
        if (!keyRing.made) {
            throw new IllegalStateException("no keys");
        }
        long[] u = rows[0];
        chance.fillTernary(u, ring.n);
        chance.fillErrors(sums[0], ring.n);
        chance.fillErrors(sums[1], ring.n);
        ring.addProduct(sums[0], keyRing.publicBody, u);
        ring.addScaled(sums[0], message, ring.scale());
        ring.addProduct(sums[1], keyRing.publicMask, u);
        return storeTwoParts(target);
    }

    public int open(int p, int c) throws NoSuchElementException {
        long[] row = plainAt(p);
        Cipher cipher = takenAt(c);
        long[] phase = phaseOf(cipher);
        for (int i = 0; i < ring.n; i++) {
            row[i] = Math.floorMod(ring.timesTOverQ(phase[i]), (long) ring.t);
        }
        return budgetOf(noiseIn(phase));
    }

    public int join(int to, int op, int a, int b)
            throws NoSuchElementException, IllegalArgumentException, IllegalStateException {
        Cipher target = placeAt(to);
        Cipher left = takenAt(a);
        Cipher right = takenAt(b);
        if (op < 0 || op > 2) {
            throw new IllegalArgumentException("no such operation");
        }
        if (op == 2 && (left.parts == 3 || right.parts == 3)) {
            throw new IllegalStateException("a product of three parts");
        }
        if (op == 2) {
            multiply(target, left, right);
        } else {
            combine(target, left, right, op == 0 ? 1L : -1L);
        }
        return target.parts;
    }

    public int plain(int to, int op, int a, int p) throws NoSuchElementException, IllegalArgumentException {
        Cipher target = placeAt(to);
        Cipher cipher = takenAt(a);
        long[] row = plainAt(p);
        if (op < 0 || op > 1) {
            throw new IllegalArgumentException("no such operation");
        }
        if (op == 0) {
            addPlain(target, cipher, row);
        } else {
            multiplyByPlain(target, cipher, row);
        }
        return target.parts;
    }

    public int shrink(int to, int a) throws NoSuchElementException, IllegalStateException {
        Cipher target = placeAt(to);
        Cipher cipher = takenAt(a);
        if (cipher.parts == 2) {
            throw new IllegalStateException("nothing to shrink");
        }
        ring.copy(sums[0], cipher.rows[0]);
        ring.copy(sums[1], cipher.rows[1]);
        applySwitch(keyRing.relin, cipher.rows[2]);
        return storeTwoParts(target);
    }

    public int turn(int to, int a, int g) throws NoSuchElementException, IllegalStateException {
        Cipher target = placeAt(to);
        Cipher cipher = takenAt(a);
        int place = keyRing.placeOfTurn(g);
        if (place == keyRing.turnCount) {
            throw new IllegalStateException("no such turn");
        }
        if (cipher.parts == 3) {
            throw new IllegalStateException("a turn of three parts");
        }
        long[] turned = rows[0];
        ring.substitute(sums[0], cipher.rows[0], g);
        ring.substitute(turned, cipher.rows[1], g);
        Arrays.fill(sums[1], 0L);
        applySwitch(keyRing.turns[place], turned);
        return storeTwoParts(target);
    }

    public int part(int c, int k, int i) throws NoSuchElementException {
        Cipher cipher = takenAt(c);
        if (k < 0 || k >= cipher.parts) {
            throw new NoSuchElementException("no such part");
        }
        checkCoefficient(i);
        return (int) cipher.rows[k][i];
    }

    public int about(int c, int what) throws NoSuchElementException, IllegalArgumentException {
        Cipher cipher = takenAt(c);
        switch (what) {
            case 0:
                return cipher.parts;
            case 1:
                return budgetOf(noiseIn(phaseOf(cipher)));
            case 2:
                return (int) noiseIn(phaseOf(cipher));
            default:
                throw new IllegalArgumentException("nothing to tell");
        }
    }

    public int drop(int c) throws NoSuchElementException {
        Cipher cipher = placeAt(c);
        int before = cipher.parts;
        cipher.parts = 0;
        return before;
    }

    public int count(int what) {
        switch (what) {
            case 0:
                return ring.kind;
            case 1:
                return ring.n;
            case 2:
                return ring.t;
            case 3:
                return ring.z;
            case 4:
                return keyRing.made ? 1 : 0;
            case 5:
                return keyRing.turnCount;
            case 6:
                return fullCiphers();
            case 7:
                return chance.upperHalf();
            default:
                return -1;
        }
    }

    private long[] plainAt(int p) {
        if (p < 0 || p >= PLAINS) {
            throw new NoSuchElementException("no such plain");
        }
        return plains[p];
    }

    private Cipher placeAt(int c) {
        if (c < 0 || c >= CIPHERS) {
            throw new NoSuchElementException("no such cipher");
        }
        return ciphers[c];
    }

    private Cipher takenAt(int c) {
        Cipher cipher = placeAt(c);
        if (cipher.parts == 0) {
            throw new NoSuchElementException("an empty cipher");
        }
        return cipher;
    }

    private void checkCoefficient(int i) {
        if (i < 0 || i >= ring.n) {
            throw new NoSuchElementException("no such coefficient");
        }
    }

    private void emptyCiphers() {
        for (int c = 0; c < CIPHERS; c++) {
            ciphers[c].parts = 0;
        }
    }

    private int fullCiphers() {
        int full = 0;
        for (int c = 0; c < CIPHERS; c++) {
            if (ciphers[c].parts > 0) {
                full++;
            }
        }
        return full;
    }

    private void combine(Cipher target, Cipher left, Cipher right, long sign) {
        int parts = Math.max(left.parts, right.parts);
        for (int k = 0; k < parts; k++) {
            Arrays.fill(sums[k], 0L);
            if (k < left.parts) {
                ring.addScaled(sums[k], left.rows[k], 1L);
            }
            if (k < right.parts) {
                ring.addScaled(sums[k], right.rows[k], sign);
            }
        }
        storeSums(target, parts);
    }

    private void multiply(Cipher target, Cipher left, Cipher right) {
        ring.centre(rows[0], left.rows[0]);
        ring.centre(rows[1], left.rows[1]);
        ring.centre(rows[2], right.rows[0]);
        ring.centre(rows[3], right.rows[1]);
        for (int k = 0; k < 3; k++) {
            Arrays.fill(sums[k], 0L);
        }
        ring.addProduct(sums[0], rows[0], rows[2]);
        ring.addProduct(sums[1], rows[0], rows[3]);
        ring.addProduct(sums[1], rows[1], rows[2]);
        ring.addProduct(sums[2], rows[1], rows[3]);
        for (int k = 0; k < 3; k++) {
            for (int i = 0; i < ring.n; i++) {
                sums[k][i] = ring.timesTOverQ(sums[k][i]);
            }
        }
        storeSums(target, 3);
    }

    private void addPlain(Cipher target, Cipher cipher, long[] row) {
        for (int k = 0; k < cipher.parts; k++) {
            ring.copy(sums[k], cipher.rows[k]);
        }
        ring.addScaled(sums[0], row, ring.scale());
        storeSums(target, cipher.parts);
    }

    private void multiplyByPlain(Cipher target, Cipher cipher, long[] row) {
        for (int k = 0; k < cipher.parts; k++) {
            Arrays.fill(sums[k], 0L);
            ring.addProduct(sums[k], row, cipher.rows[k]);
        }
        storeSums(target, cipher.parts);
    }

    private void applySwitch(SwitchKey key, long[] row) {
        long[] digit = rows[1];
        for (int k = 0; k < DIGITS; k++) {
            for (int i = 0; i < ring.n; i++) {
                digit[i] = (row[i] >> (DIGIT_BITS * k)) & DIGIT_MASK;
            }
            ring.addProduct(sums[0], digit, key.bodies[k]);
            ring.addProduct(sums[1], digit, key.masks[k]);
        }
    }

    private void storeSums(Cipher target, int parts) {
        for (int k = 0; k < parts; k++) {
            ring.reduce(target.rows[k], sums[k]);
        }
        target.parts = parts;
    }

    private int storeTwoParts(Cipher target) {
        storeSums(target, 2);
        return budgetOf(noiseIn(phaseOf(target)));
    }

    private long[] phaseOf(Cipher cipher) {
        long[] phase = rows[0];
        keyRing.findPhase(ring, phase, cipher);
        return phase;
    }

    private long noiseIn(long[] phase) {
        long noise = 0;
        for (int i = 0; i < ring.n; i++) {
            noise = Math.max(noise, Math.abs(centred(ring.t * phase[i])));
        }
        return noise;
    }

    private static int budgetOf(long noise) {
        int budget = MOST_BUDGET;
        while (budget > 0 && (noise << (budget + 1)) >= Q) {
            budget--;
        }
        return budget;
    }

    private static long centred(long x) {
        long rest = Math.floorMod(x, Q);
        return rest > HALF_Q ? rest - Q : rest;
    }

    /** The numbers that follow from the kind, and the arithmetic of polynomials modulo x^n + 1. */
    private static final class Ring {
        private int kind;
        private int n;
        private int t;
        private int z;
        private final long[] powersOfZ;

        private Ring() {
            powersOfZ = new long[2 * MOST_COEFFICIENTS];
            choose(0);
        }

        private void choose(int newKind) {
            kind = newKind;
            n = SIZES[newKind];
            t = MODULI[newKind];
            z = leastRoot();
            long power = 1;
            for (int i = 0; i < 2 * n; i++) {
                powersOfZ[i] = power;
                power = power * z % t;
            }
        }

        private int leastRoot() {
            int candidate = 2;
            while (candidate < t && powerModT(candidate, n) != t - 1) {
                candidate++;
            }
            return candidate;
        }

        private long powerModT(long base, int exponent) {
            long power = 1;
            for (int i = 0; i < exponent; i++) {
                power = power * base % t;
            }
            return power;
        }

        /** The factor D by which a message is lifted above the noise. */
        private long scale() {
            return Q / t;
        }

        /** T x / Q, rounded; x is split by Q first because T x may outgrow a long. */
        private long timesTOverQ(long x) {
            long whole = Math.floorDiv(x, Q);
            long rest = Math.floorMod(x, Q);
            return t * whole + (2 * t * rest + Q) / (2 * Q);
        }

        private void evaluate(long[] values, long[] polynomial) {
            for (int i = 0; i < n; i++) {
                long total = 0;
                for (int j = 0; j < n; j++) {
                    total += polynomial[j] * powersOfZ[(2 * i + 1) * j % (2 * n)];
                }
                values[i] = total % t;
            }
        }

        /** The inverse of evaluate: z has the order 2 n, so the matrix of powers inverts by n and 1 / z. */
        private void interpolate(long[] polynomial, long[] values) {
            // T is a prime, hence the inverse of n is its power T - 2.
            long inverseOfN = powerModT(n, t - 2);
            for (int j = 0; j < n; j++) {
                long total = 0;
                for (int i = 0; i < n; i++) {
                    total += values[i] * powersOfZ[(2 * n - 1) * (2 * i + 1) * j % (2 * n)];
                }
                polynomial[j] = total % t * inverseOfN % t;
            }
        }

        /** Over whole numbers: 32 products of two numbers below 2^28 stay below 2^61, so nothing overflows. */
        private void addProduct(long[] sum, long[] a, long[] b) {
            for (int i = 0; i < n; i++) {
                long factor = a[i];
                for (int j = 0; j < n - i; j++) {
                    sum[i + j] += factor * b[j];
                }
                for (int j = n - i; j < n; j++) {
                    sum[i + j - n] -= factor * b[j];
                }
            }
        }

        private void addScaled(long[] sum, long[] row, long factor) {
            for (int i = 0; i < n; i++) {
                sum[i] += factor * row[i];
            }
        }

        private void copy(long[] to, long[] from) {
            System.arraycopy(from, 0, to, 0, n);
        }

        private void reduce(long[] to, long[] from) {
            for (int i = 0; i < n; i++) {
                to[i] = Math.floorMod(from[i], Q);
            }
        }

        private void centre(long[] to, long[] from) {
            for (int i = 0; i < n; i++) {
                to[i] = centred(from[i]);
            }
        }

        /** x^g for x, modulo Q; g is odd, so every coefficient finds a place of its own. */
        private void substitute(long[] to, long[] from, int g) {
            for (int i = 0; i < n; i++) {
                int exponent = g * i % (2 * n);
                if (exponent < n) {
                    to[exponent] = Math.floorMod(from[i], Q);
                } else {
                    to[exponent - n] = Math.floorMod(-from[i], Q);
                }
            }
        }
    }

    /** The document's CHANCE; an int holds its 32 bits, since products and sums wrap alike. */
    private static final class Chance {
        private int state;

        private void restart(int seed) {
            state = seed;
        }

        private int upperHalf() {
            return state >>> 16;
        }

        private int draw() {
            state = 1664525 * state + 1013904223;
            return state >>> 16;
        }

        private void fillTernary(long[] row, int n) {
            for (int i = 0; i < n; i++) {
                row[i] = draw() % 3 - 1;
            }
        }

        private void fillErrors(long[] row, int n) {
            for (int i = 0; i < n; i++) {
                int bits = draw();
                row[i] = Integer.bitCount(bits & 7) - Integer.bitCount(bits & 56);
            }
        }

        private void fillUniform(long[] row, int n) {
            for (int i = 0; i < n; i++) {
                long upper = draw();
                row[i] = (65536L * upper + draw()) % Q;
            }
        }
    }

    /** A place for a sealed row; it is empty when it has no parts. */
    private static final class Cipher {
        private int parts;
        private final long[][] rows;

        private Cipher() {
            rows = new long[MOST_PARTS][MOST_COEFFICIENTS];
        }
    }

    /** The six pairs of a SWITCH, and the g that it is for when it is a TURN. */
    private static final class SwitchKey {
        private int g;
        private final long[][] bodies;
        private final long[][] masks;

        private SwitchKey() {
            bodies = new long[DIGITS][MOST_COEFFICIENTS];
            masks = new long[DIGITS][MOST_COEFFICIENTS];
        }
    }

    /** The KEYS with their TURNS; the secret and its square are kept as small whole numbers. */
    private static final class KeyRing {
        private boolean made;
        private int turnCount;
        private final long[] secret;
        private final long[] square;
        private final long[] publicBody;
        private final long[] publicMask;
        private final SwitchKey relin;
        private final SwitchKey[] turns;
        private final long[] sum;
        private final long[] source;

        private KeyRing() {
            secret = new long[MOST_COEFFICIENTS];
            square = new long[MOST_COEFFICIENTS];
            publicBody = new long[MOST_COEFFICIENTS];
            publicMask = new long[MOST_COEFFICIENTS];
            relin = new SwitchKey();
            turns = new SwitchKey[MOST_TURNS];
            for (int k = 0; k < MOST_TURNS; k++) {
                turns[k] = new SwitchKey();
            }
            sum = new long[MOST_COEFFICIENTS];
            source = new long[MOST_COEFFICIENTS];
        }

        private void forget() {
            made = false;
            turnCount = 0;
        }

        private void renew(Ring ring, Chance chance) {
            chance.fillTernary(secret, ring.n);
            Arrays.fill(square, 0L);
            ring.addProduct(square, secret, secret);
            makeMask(ring, chance, publicMask);
            hideBody(ring, publicBody);
            makeSwitch(ring, chance, relin, square);
            made = true;
            turnCount = 0;
        }

        /** The place of TURN g, or the place behind the last TURN. */
        private int placeOfTurn(int g) {
            int place = 0;
            while (place < turnCount && turns[place].g != g) {
                place++;
            }
            return place;
        }

        private void makeTurn(Ring ring, Chance chance, int place, int g) {
            ring.substitute(source, secret, g);
            makeSwitch(ring, chance, turns[place], source);
            turns[place].g = g;
            turnCount = Math.max(turnCount, place + 1);
        }

        private void makeSwitch(Ring ring, Chance chance, SwitchKey key, long[] row) {
            for (int k = 0; k < DIGITS; k++) {
                makeMask(ring, chance, key.masks[k]);
                ring.addScaled(sum, row, -(1L << (DIGIT_BITS * k)));
                hideBody(ring, key.bodies[k]);
            }
        }

        /** Draws a and e and leaves a s + e in the sum. */
        private void makeMask(Ring ring, Chance chance, long[] mask) {
            chance.fillUniform(mask, ring.n);
            chance.fillErrors(sum, ring.n);
            ring.addProduct(sum, secret, mask);
        }

        private void hideBody(Ring ring, long[] body) {
            for (int i = 0; i < ring.n; i++) {
                body[i] = Math.floorMod(-sum[i], Q);
            }
        }

        private void findPhase(Ring ring, long[] phase, Cipher cipher) {
            ring.copy(sum, cipher.rows[0]);
            ring.addProduct(sum, secret, cipher.rows[1]);
            if (cipher.parts == 3) {
                ring.addProduct(sum, square, cipher.rows[2]);
            }
            ring.centre(phase, sum);
        }
    }
}
