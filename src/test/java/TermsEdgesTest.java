import java.math.BigInteger;
import java.util.ArrayList;
import java.util.List;
import java.util.NoSuchElementException;

/** The words under 'Terms': one test for each sentence that names an end, a wrap-around or a rounding. */
public final class TermsEdgesTest {
    private static final Class<NoSuchElementException> NONE = NoSuchElementException.class;
    private static final Class<IllegalArgumentException> ARGUMENT = IllegalArgumentException.class;
    private static final int[] SIZES = {8, 16, 32};
    private static final int[] MODULI = {17, 97, 193};
    private static final long Q = Rows.Q;
    private static final long HALF = Rows.HALF;
    private static final long[] DIGIT_ENDS = {0, 1, 31, 32, 33, 1023, 1024, (1L << 25) - 1, 1L << 25, 7L << 25,
        HALF, HALF + 1, Q - 1};

    private final Expect expect;
    private final int kind;
    private final int n;
    private final int t;

    private TermsEdgesTest(Expect expect, int kind) {
        this.expect = expect;
        this.kind = kind;
        n = SIZES[kind];
        t = MODULI[kind];
    }

    public static void main(String[] args) {
        Expect expect = new Expect();
        for (int kind = 0; kind < 3; kind++) {
            new TermsEdgesTest(expect, kind).testAll();
        }
        expect.finish();
    }

    private void testAll() {
        kindIsOneOfThree();
        productsWrapAround();
        productsTakeCentredNumbers();
        productsAreRounded();
        dIsCutOff();
        zIsTheLeast();
        seedHasNoSign();
        chanceIsModulo32Bits();
        ternaryOfTheLeastAndTheGreatestDraw();
        errorCountsSixBits();
        uniformIsModuloQ();
        turnIsOddAndInRange();
        thereAreEightPlains();
        plainCoefficientsAreBelowT();
        thereAreSixteenCiphers();
        partCoefficientsAreBelowQ();
        phaseOfTwoAndOfThreeParts();
        openedIsRounded();
        openedAtTheEndsOfCentred();
        noiseIsTheGreatestSize();
        budgetFromNothingToAll();
        switchHasSixPairs();
        appliedTakesSixDigits();
    }

    private void due(String what, long got, long want) {
        expect.due("KIND " + kind + ": " + what, got, want);
    }

    private void rowDue(String what, long[] got, long[] want) {
        expect.row("KIND " + kind + ": " + what, got, want);
    }

    private void refused(String what, Class<? extends RuntimeException> want, Expect.Call call) {
        expect.refused("KIND " + kind + ": " + what, want, call);
    }

    private Desk begun(int seed) {
        Desk x = new Desk();
        x.begin(kind, seed);
        return x;
    }

    private Desk withKeys(int seed) {
        Desk x = begun(seed);
        x.keys();
        return x;
    }

    private long[] firstPart(Desk x, int c) {
        return x.partRow(c, 0, n);
    }

    private static long[] row(List<Long> numbers, int from, int n) {
        long[] row = new long[n];
        for (int i = 0; i < n && from + i < numbers.size(); i++) {
            row[i] = numbers.get(from + i);
        }
        return row;
    }

    /** "KIND 0, 1, 2 (0 at first): N 8, 16, 32; T 17, 97, 193." */
    private void kindIsOneOfThree() {
        Desk x = new Desk();
        due("KIND at first", x.count(0), 0);
        due("N at first", x.count(1), 8);
        due("T at first", x.count(2), 17);
        due("this KIND is taken", x.begin(kind, 0), n);
        due("its T", x.count(2), t);
        for (int wrong : new int[] {Integer.MIN_VALUE, -1, 3, Integer.MAX_VALUE}) {
            refused("begin(" + wrong + ", 0)", ARGUMENT, () -> x.begin(wrong, 0));
        }
        due("the KIND is as it was", x.count(0), kind);
    }

    /** "products modulo x^N + 1": the last product that does not wrap and the first that does. */
    private void productsWrapAround() {
        Desk x = withKeys(1);
        Forge forge = new Forge(x);
        forge.first(0, Rows.single(n, n - 2, 1));
        x.set(0, 1, 1);
        x.plain(1, 1, 0, 0);
        rowDue("x^(N - 2) x", firstPart(x, 1), Rows.single(n, n - 1, 1));
        x.plain(2, 1, 1, 0);
        rowDue("x^(N - 1) x is -1", firstPart(x, 2), Rows.constant(n, Q - 1));
        x.set(0, 1, 0);
        x.set(0, n - 1, t - 1);
        x.plain(3, 1, 1, 0);
        rowDue("(T - 1) x^(N - 1) x^(N - 1)", firstPart(x, 3), Rows.single(n, n - 2, 1 - t));
        due("a product of CIPHERS", x.join(4, 2, 1, 1), 3);
        // T (-1) / Q lies between -1/2 and 0, so it is rounded to 0.
        rowDue("a product too small to stay", firstPart(x, 4), Rows.constant(n, 0));
        forge.first(5, Rows.single(n, n - 1, HALF));
        x.join(6, 2, 5, 1);
        long wrapped = Rows.rounded(BigInteger.valueOf(-HALF), t).longValueExact();
        rowDue("x^(N - 1) x^(N - 1) of CIPHERS", firstPart(x, 6), Rows.single(n, n - 2, wrapped));
    }

    /** "CENTRED: from -(Q - 1) / 2 to (Q - 1) / 2, the same modulo Q." */
    private void productsTakeCentredNumbers() {
        long[] ends = {HALF - 1, HALF, HALF + 1, HALF + 2, 0, 1, Q - 1};
        for (long left : ends) {
            for (long right : new long[] {HALF, HALF + 1}) {
                Desk x = withKeys(2);
                Forge forge = new Forge(x);
                forge.first(0, Rows.constant(n, left));
                forge.first(1, Rows.constant(n, right));
                x.join(2, 2, 0, 1);
                BigInteger product = BigInteger.valueOf(Rows.centred(left) * Rows.centred(right));
                long want = Rows.rounded(product, t).mod(BigInteger.valueOf(Q)).longValueExact();
                rowDue(left + " times " + right, firstPart(x, 2), Rows.constant(n, want));
            }
        }
    }

    /** Numbers on either side of each half of Q / T, and the ends of 0 .. Q - 1. */
    private List<Long> besideEachHalf() {
        List<Long> numbers = new ArrayList<>();
        for (long m = 0; m < t; m++) {
            long below = (2 * m + 1) * Q / (2 * t);
            numbers.add(below);
            numbers.add(below + 1);
        }
        numbers.addAll(List.of(0L, 1L, HALF, HALF + 1, Q - 1));
        return numbers;
    }

    /** "T x / Q, rounded (a half upwards), modulo Q": Q is odd, so the numbers beside a half are its ends. */
    private void productsAreRounded() {
        List<Long> numbers = besideEachHalf();
        for (int from = 0; from < numbers.size(); from += n) {
            long[] left = row(numbers, from, n);
            for (int sign = -1; sign <= 1; sign += 2) {
                Desk x = withKeys(3);
                Forge forge = new Forge(x);
                forge.first(0, left);
                forge.first(1, Rows.constant(n, sign));
                x.join(2, 2, 0, 1);
                long[] want = new long[n];
                for (int i = 0; i < n; i++) {
                    BigInteger product = BigInteger.valueOf(sign * Rows.centred(left[i]));
                    want[i] = Rows.rounded(product, t).mod(BigInteger.valueOf(Q)).longValueExact();
                }
                rowDue("products from " + from + ", sign " + sign, firstPart(x, 2), want);
            }
        }
    }

    /** "D: Q / T, cut off." */
    private void dIsCutOff() {
        long[] cutOff = {15_790_317L, 2_767_375L, 1_390_856L};
        Desk x = withKeys(4);
        x.seal(0, 0);
        x.join(0, 1, 0, 0);
        x.set(1, 0, 1);
        x.set(1, n - 1, t - 1);
        x.plain(0, 0, 0, 1);
        due("D", x.part(0, 0, 0), cutOff[kind]);
        due("(T - 1) D", x.part(0, 0, n - 1), (t - 1) * cutOff[kind]);
        x.plain(0, 0, 0, 1);
        due("2 (T - 1) D modulo Q", x.part(0, 0, n - 1), 2 * (t - 1) * cutOff[kind] % Q);
    }

    /** "z: the least number from 2 on whose N-th power is -1 modulo T." */
    private void zIsTheLeast() {
        int z = begun(0).count(3);
        for (int candidate = 2; candidate <= z; candidate++) {
            boolean fits = BigInteger.valueOf(candidate).modPow(BigInteger.valueOf(n), BigInteger.valueOf(t))
                    .intValueExact() == t - 1;
            due(candidate + " for z", fits ? 1 : 0, candidate == z ? 1 : 0);
        }
    }

    /** "CHANCE: a number of 32 bits without sign, the seed (0) at first." */
    private void seedHasNoSign() {
        due("CHANCE at first", new Desk().count(7), 0);
        int[] seeds = {0, 1, 65_535, 65_536, Integer.MAX_VALUE, Integer.MIN_VALUE, -65_537, -65_536, -1};
        int[] halves = {0, 0, 0, 1, 32_767, 32_768, 65_534, 65_535, 65_535};
        for (int i = 0; i < seeds.length; i++) {
            Desk x = begun(seeds[i]);
            due("seed " + seeds[i], x.count(7), halves[i]);
            x.keys();
            due("keys behind seed " + seeds[i], x.count(7), new Draws(seeds[i]).skip(Draws.ofKeys(n)).chance() >> 16);
            x.turnKey(3);
            x.seal(0, 0);
            long[] u = new Draws(seeds[i]).skip(Draws.ofKeys(n) + 18 * n).ternary(n);
            long[] a = new Draws(seeds[i]).skip(n).uniform(n);
            long[] f = new Draws(seeds[i]).skip(Draws.ofKeys(n) + 18 * n + 2 * n).error(n);
            rowDue("a u + f behind seed " + seeds[i], x.partRow(0, 1, n), Rows.plus(Rows.times(a, u), f));
        }
    }

    /** "CHANCE becomes 1664525 CHANCE + 1013904223 modulo 2^32; then it is CHANCE / 65,536, cut off." */
    private void chanceIsModulo32Bits() {
        long[] ends = {0, 65_535, 65_536, (1L << 31) - 1, 1L << 31, (1L << 32) - 65_537, (1L << 32) - 1};
        int[] halves = {0, 0, 1, 32_767, 32_768, 65_534, 65_535};
        for (int i = 0; i < ends.length; i++) {
            Desk x = withKeys(Draws.seedBefore(ends[i], Draws.ofKeys(n)));
            due("CHANCE " + ends[i], x.count(7), halves[i]);
            x.seal(0, 0);
            due("CHANCE goes on from " + ends[i], x.count(7), new Draws((int) ends[i]).skip(3 * n).chance() / 65_536);
        }
    }

    /** s, read by opening D s. */
    private long[] secretOf(Desk x) {
        Forge forge = new Forge(x);
        forge.secondUnit(0);
        forge.multiple(1, 0, Rows.constant(n, Q / t));
        x.open(0, 1);
        long[] secret = x.plainRow(0, n);
        for (int i = 0; i < n; i++) {
            secret[i] = secret[i] > t / 2 ? secret[i] - t : secret[i];
        }
        return secret;
    }

    /** "TERNARY: DRAW modulo 3, less 1." */
    private void ternaryOfTheLeastAndTheGreatestDraw() {
        long[] drawn = {0, 1, 2, 32_767, 32_768, 65_533, 65_534, 65_535};
        long[] ternary = {-1, 0, 1, 0, 1, 0, 1, -1};
        for (int i = 0; i < drawn.length; i++) {
            for (int place = 0; place < n; place += n - 1) {
                int seed = Draws.seedBefore(drawn[i] * 65_536 + 40_000, place + 1);
                long[] secret = secretOf(withKeys(seed));
                due("TERNARY of DRAW " + drawn[i] + " at " + place, secret[place], ternary[i]);
                rowDue("s behind seed " + seed, secret, new Draws(seed).ternary(n));
            }
        }
    }

    /** The first pair of TURN 3, made right after the KEYS: what (0, 1) is turned to. */
    private long[][] firstPairOfTurn(int seed) {
        Desk x = withKeys(seed);
        x.turnKey(3);
        new Forge(x).secondUnit(0);
        x.turn(1, 0, 3);
        return new long[][] {x.partRow(1, 0, n), x.partRow(1, 1, n)};
    }

    /** "ERROR: how many of the bits 0, 1, 2 of a DRAW are 1, less how many of the bits 3, 4, 5." */
    private void errorCountsSixBits() {
        int[] drawn = {0, 0b000111, 0b111000, 0b111111, 0b000001, 0b000100, 0b001000, 0b100000, 0b1000000,
            0xFFC0, 0xFFC7, 0xFFF8, 0xFFFF};
        int[] errors = {0, 3, -3, 0, 1, 1, -1, -1, 0, 0, 3, -3, 0};
        for (int i = 0; i < drawn.length; i++) {
            int place = i % 2 == 0 ? 0 : n - 1;
            int seed = Draws.seedBefore(drawn[i] * 65_536L + 9, Draws.ofKeys(n) + 2 * n + place + 1);
            long[][] pair = firstPairOfTurn(seed);
            long[] secret = new Draws(seed).ternary(n);
            long[] error = Rows.minus(Rows.at(secret, 3), Rows.plus(pair[0], Rows.times(pair[1], secret)));
            due("ERROR of DRAW " + drawn[i] + " at " + place, Rows.centred(error[place]), errors[i]);
        }
    }

    /** "UNIFORM: 65,536 times a DRAW plus the next DRAW, modulo Q." */
    private void uniformIsModuloQ() {
        for (long rest : new long[] {-1, 0, 1}) {
            int met = 0;
            for (long times = 1; times <= 15 && met < 2; times += met == 0 ? 1 : 7) {
                long chance = Draws.chanceBeforePair(times * Q + rest);
                if (chance >= 0) {
                    met++;
                    int seed = Draws.seedBefore(chance, Draws.ofKeys(n));
                    long[] mask = firstPairOfTurn(seed)[1];
                    due("UNIFORM of " + times + " Q + " + rest, mask[0], Math.floorMod(rest, Q));
                    rowDue("UNIFORM behind it", mask, new Draws((int) chance).uniform(n));
                }
            }
            due("a pair of DRAWS for " + rest + " was found", met > 0 ? 1 : 0, 1);
        }
    }

    /** "TURN g (odd, 3 .. 2 N - 1)." */
    private void turnIsOddAndInRange() {
        Desk x = withKeys(5);
        int[] wrong = {Integer.MIN_VALUE, -2 * n - 1, -3, -1, 0, 1, 2, 4, 2 * n - 2, 2 * n, 2 * n + 1, 2 * n + 3,
            Integer.MAX_VALUE};
        for (int g : wrong) {
            refused("turnKey(" + g + ")", ARGUMENT, () -> x.turnKey(g));
        }
        due("the least TURN", x.turnKey(3), 1);
        due("the greatest TURN", x.turnKey(2 * n - 1), 2);
        x.set(0, 1, 1);
        x.seal(0, 0);
        x.turn(1, 0, 3);
        x.open(1, 1);
        rowDue("x at x^3", x.plainRow(1, n), Rows.single(n, 3, 1));
        x.turn(2, 0, 2 * n - 1);
        x.open(2, 2);
        rowDue("x at x^(2 N - 1)", x.plainRow(2, n), Rows.single(n, n - 1, t - 1));
    }

    /** "PLAINS 0 .. 7: POLYNOMIALS [...], 0 at first." */
    private void thereAreEightPlains() {
        Desk x = withKeys(6);
        for (int p = 0; p < 8; p++) {
            due("PLAIN " + p + " at first", x.set(p, 0, p + 1), 0);
            due("PLAIN " + p + " at first", x.set(p, n - 1, p + 8), 0);
        }
        for (int p = 0; p < 8; p++) {
            due("PLAIN " + p + " holds its own", x.get(p, 0), p + 1);
            due("PLAIN " + p + " holds its own", x.get(p, n - 1), p + 8);
        }
        for (int p : new int[] {Integer.MIN_VALUE, -1, 8, Integer.MAX_VALUE}) {
            refused("get(" + p + ", 0)", NONE, () -> x.get(p, 0));
        }
        for (int i : new int[] {Integer.MIN_VALUE, -1, n, Integer.MAX_VALUE}) {
            refused("get(0, " + i + ")", NONE, () -> x.get(0, i));
        }
    }

    /** "with coefficients 0 .. T - 1". */
    private void plainCoefficientsAreBelowT() {
        Desk x = withKeys(7);
        for (int i = 0; i < n; i++) {
            x.set(0, i, t - 1);
        }
        rowDue("T - 1 everywhere", x.plainRow(0, n), Rows.filled(n, t - 1));
        due("equal values T - 1 are the constant T - 1", x.batch(0, false), t - 1);
        rowDue("the constant T - 1", x.plainRow(0, n), Rows.constant(n, t - 1));
        x.seal(0, 0);
        x.open(1, 0);
        rowDue("T - 1 opened", x.plainRow(1, n), Rows.constant(n, t - 1));
        due("back to T - 1", x.batch(1, true), t - 1);
        rowDue("T - 1 everywhere again", x.plainRow(1, n), Rows.filled(n, t - 1));
        due("T becomes 0", x.set(1, 0, t), t - 1);
        due("it is 0", x.get(1, 0), 0);
    }

    /** "CIPHERS 0 .. 15: empty, or of 2 or 3 PARTS". */
    private void thereAreSixteenCiphers() {
        Desk x = withKeys(8);
        for (int c = 0; c < 16; c++) {
            int place = c;
            refused("CIPHER " + c + " is empty at first", NONE, () -> x.about(place, 0));
            due("none but those before", x.count(6), c);
            x.set(0, 0, c);
            x.seal(c, 0);
        }
        due("all are full", x.count(6), 16);
        for (int c = 0; c < 16; c++) {
            x.open(1, c);
            due("CIPHER " + c + " holds its own", x.get(1, 0), c);
        }
        for (int c : new int[] {Integer.MIN_VALUE, -1, 16, Integer.MAX_VALUE}) {
            refused("about(" + c + ", 0)", NONE, () -> x.about(c, 0));
            refused("seal(" + c + ", 0)", NONE, () -> x.seal(c, 0));
        }
        due("a product has 3 PARTS", x.join(15, 2, 14, 13), 3);
        due("and is one of 16", x.count(6), 16);
    }

    /** "POLYNOMIALS with coefficients 0 .. Q - 1": sums that just reach Q and differences that just miss 0. */
    private void partCoefficientsAreBelowQ() {
        Desk x = withKeys(9);
        Forge forge = new Forge(x);
        forge.first(0, Rows.constant(n, Q - 1));
        forge.first(1, Rows.constant(n, 1));
        rowDue("Q - 1", firstPart(x, 0), Rows.constant(n, Q - 1));
        x.join(2, 0, 0, 1);
        due("Q - 1 and 1 are 0", x.part(2, 0, 0), 0);
        x.join(3, 1, 2, 1);
        due("0 less 1 is Q - 1", x.part(3, 0, 0), Q - 1);
        x.join(3, 1, 2, 0);
        due("0 less Q - 1 is 1", x.part(3, 0, 0), 1);
        x.join(4, 0, 0, 0);
        due("Q - 1 twice", x.part(4, 0, 0), Q - 2);
        x.set(0, 0, t - 1);
        x.plain(5, 1, 0, 0);
        due("Q - 1 times T - 1", x.part(5, 0, 0), Q - (t - 1));
        x.plain(5, 1, 2, 0);
        due("0 times T - 1", x.part(5, 0, 0), 0);
        forge.first(6, Rows.constant(n, Q - Q / t));
        x.set(0, 0, 1);
        x.plain(6, 0, 6, 0);
        due("Q - D and D are 0", x.part(6, 0, 0), 0);
    }

    /** "PHASE of a CIPHER: its first PART + the second times s (+ the third times s s)". */
    private void phaseOfTwoAndOfThreeParts() {
        int seed = -10;
        Desk x = withKeys(seed);
        Forge forge = new Forge(x);
        forge.secondUnit(0);
        forge.thirdUnit(1, 0);
        due("(0, 0, 1) has 3 PARTS", x.about(1, 0), 3);
        forge.multiple(2, 1, Rows.constant(n, Q / t));
        x.open(0, 2);
        long[] secret = new Draws(seed).ternary(n);
        long[] square = Rows.times(secret, secret);
        for (int i = 0; i < n; i++) {
            square[i] = Math.floorMod(Rows.centred(square[i]), (long) t);
        }
        rowDue("D s s opened", x.plainRow(0, n), square);
    }

    /** "OPENED: of each coefficient p of it: T p / Q, rounded (a half upwards), modulo T." */
    private void openedIsRounded() {
        List<Long> numbers = besideEachHalf();
        for (int from = 0; from < 2 * t; from += n) {
            Desk x = withKeys(11);
            new Forge(x).first(0, row(numbers, from, n));
            x.open(0, 0);
            for (int i = 0; i < n && from + i < 2 * t; i++) {
                int m = (from + i) / 2;
                boolean above = (from + i) % 2 == 1;
                due("opened " + numbers.get(from + i), x.get(0, i), above ? (m + 1) % t : m);
            }
        }
    }

    /** "modulo Q, CENTRED": the ends open to the two middle numbers, since T is odd. */
    private void openedAtTheEndsOfCentred() {
        Desk x = withKeys(12);
        long[] row = new long[n];
        row[0] = HALF;
        row[1] = HALF + 1;
        row[2] = Q - 1;
        row[3] = 1;
        new Forge(x).first(0, row);
        x.open(0, 0);
        rowDue("the ends opened", x.plainRow(0, n), Rows.plus(Rows.single(n, 0, t / 2), Rows.single(n, 1, t / 2 + 1)));
    }

    /** "NOISE: the greatest size of T p modulo Q, CENTRED." */
    private void noiseIsTheGreatestSize() {
        long[][] noises = {{5, -9, 7}, {-9, 9, 0}, {0, 0, 0}, {0, 0, 1}, {0, 0, -1}, {HALF, 0, 0}, {0, -HALF, 0},
            {0, 0, HALF + 1}, {0, HALF + 2, 0}, {HALF - 1, 0, 0}};
        long[] greatest = {9, 9, 0, 1, 1, HALF, HALF, HALF, HALF - 1, HALF - 1};
        for (int i = 0; i < noises.length; i++) {
            long[] row = new long[n];
            for (int j = 0; j < 3; j++) {
                row[j == 2 ? n - 1 : j] = Rows.times(noises[i][j], Rows.inverse(t));
            }
            Desk x = withKeys(13);
            new Forge(x).first(0, row);
            due("NOISE " + i, x.about(0, 2), greatest[i]);
        }
    }

    /** "BUDGET: the greatest k from 0 to 27 with 2^(k + 1) NOISE below Q; 0 without." */
    private void budgetFromNothingToAll() {
        for (int k = 0; k <= 27; k++) {
            long most = (Q - 1) >> (k + 1);
            checkBudget(most, k);
            checkBudget(-most, k);
            if (k > 0) {
                checkBudget(most + 1, k - 1);
                checkBudget(-most - 1, k - 1);
            }
        }
        checkBudget(0, 27);
        checkBudget(1, 26);
        checkBudget(2, 25);
        checkBudget(HALF, 0);
        checkBudget(HALF + 1, 0);
    }

    private void checkBudget(long noise, int budget) {
        Desk x = withKeys(14);
        new Forge(x).first(0, Rows.single(n, n - 1, Rows.times(noise, Rows.inverse(t))));
        due("NOISE " + noise, x.about(0, 2), Math.abs(Rows.centred(noise)));
        due("BUDGET of NOISE " + noise, x.about(0, 1), budget);
        due("open answers the BUDGET of NOISE " + noise, x.open(0, 0), budget);
    }

    private long[][] pairsOf(Draws draws, long[] secret, long[] hidden) {
        long[][] pairs = new long[12][];
        for (int k = 0; k < 6; k++) {
            long[] mask = draws.uniform(n);
            long[] error = draws.error(n);
            long[] covered = Rows.scaled(Rows.plus(Rows.times(mask, secret), error), -1);
            pairs[2 * k] = Rows.plus(covered, Rows.scaled(hidden, 1L << (5 * k)));
            pairs[2 * k + 1] = mask;
        }
        return pairs;
    }

    private long[][] relinPairs(int seed) {
        long[] secret = new Draws(seed).ternary(n);
        return pairsOf(new Draws(seed).skip(4 * n), secret, Rows.times(secret, secret));
    }

    private long[][] turnPairs(int seed, int g) {
        long[] secret = new Draws(seed).ternary(n);
        return pairsOf(new Draws(seed).skip(Draws.ofKeys(n)), secret, Rows.at(secret, g));
    }

    private void checkShrunk(int seed, long[] third, long[] first, long[] second) {
        Desk x = withKeys(seed);
        Forge forge = new Forge(x);
        forge.secondUnit(0);
        forge.thirdUnit(1, 0);
        forge.multiple(2, 1, third);
        x.shrink(2, 2);
        due("first PART shrunk", x.part(2, 0, 0), first[0]);
        due("first PART shrunk", x.part(2, 0, n - 1), first[n - 1]);
        due("second PART shrunk", x.part(2, 1, 0), second[0]);
        due("second PART shrunk", x.part(2, 1, n - 1), second[n - 1]);
    }

    private void checkTurned(int seed, int g, long[] taken, long[] first, long[] second) {
        Desk x = withKeys(seed);
        x.turnKey(g);
        Forge forge = new Forge(x);
        forge.secondUnit(0);
        forge.multiple(1, 0, taken);
        x.turn(1, 1, g);
        due("first PART turned", x.part(1, 0, 0), first[0]);
        due("first PART turned", x.part(1, 0, n - 1), first[n - 1]);
        due("second PART turned", x.part(1, 1, 0), second[0]);
        due("second PART turned", x.part(1, 1, n - 1), second[n - 1]);
    }

    /** "SWITCH of a POLYNOMIAL f: for k from 0 to 5: a, e likewise: (-(a s + e) + 32^k f, a)." */
    private void switchHasSixPairs() {
        for (int k = 0; k < 6; k++) {
            long[] place = Rows.constant(n, 1L << (5 * k));
            long[][] relin = relinPairs(-77);
            checkShrunk(-77, place, relin[2 * k], relin[2 * k + 1]);
            for (int g : new int[] {3, 2 * n - 1}) {
                long[][] turn = turnPairs(-78, g);
                checkTurned(-78, g, place, turn[2 * k], turn[2 * k + 1]);
            }
        }
    }

    private long[] applied(long[][] pairs, int half, long[] row) {
        long[] sum = new long[n];
        for (int k = 0; k < 6; k++) {
            sum = Rows.plus(sum, Rows.times(Rows.digit(row, k), pairs[2 * k + half]));
        }
        return sum;
    }

    /** "c's digits in base 32, [...] POLYNOMIAL 0, and so on to 5: the sum of each times its pair." */
    private void appliedTakesSixDigits() {
        long[][] relin = relinPairs(79);
        long[][] turn = turnPairs(80, 2 * n - 1);
        for (long end : DIGIT_ENDS) {
            long[] constant = Rows.constant(n, end);
            checkShrunk(79, constant, applied(relin, 0, constant), applied(relin, 1, constant));
            // At x^(2 N - 1) x becomes -x^(N - 1), so the digits are those of Q - end.
            long[] taken = Rows.single(n, 1, end);
            long[] turned = Rows.single(n, n - 1, Q - end);
            checkTurned(80, 2 * n - 1, taken, applied(turn, 0, turned), applied(turn, 1, turned));
        }
        long[] mixed = new long[n];
        for (int i = 0; i < n; i++) {
            mixed[i] = DIGIT_ENDS[(5 * i + 3) % DIGIT_ENDS.length];
        }
        checkShrunk(79, mixed, applied(relin, 0, mixed), applied(relin, 1, mixed));
        long[] turned = Rows.at(mixed, 2 * n - 1);
        checkTurned(80, 2 * n - 1, mixed, applied(turn, 0, turned), applied(turn, 1, turned));
    }
}
