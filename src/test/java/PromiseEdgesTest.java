import java.util.NoSuchElementException;

/** The promises: one test for each sentence that names the last, the empty, the full, a wrap-around or an again. */
public final class PromiseEdgesTest {
    private static final Class<NoSuchElementException> NONE = NoSuchElementException.class;
    private static final Class<IllegalArgumentException> ARGUMENT = IllegalArgumentException.class;
    private static final Class<IllegalStateException> STATE = IllegalStateException.class;
    private static final int[] SIZES = {8, 16, 32};
    private static final int[] MODULI = {17, 97, 193};
    private static final long Q = Rows.Q;

    private final Expect expect;
    private final int kind;
    private final int n;
    private final int t;

    private PromiseEdgesTest(Expect expect, int kind) {
        this.expect = expect;
        this.kind = kind;
        n = SIZES[kind];
        t = MODULI[kind];
    }

    public static void main(String[] args) {
        Expect expect = new Expect();
        for (int kind = 0; kind < 3; kind++) {
            PromiseEdgesTest test = new PromiseEdgesTest(expect, kind);
            test.testLimitsOfUse();
            test.testPlains();
            test.testSealing();
            test.testJoining();
            test.testSwitching();
            test.testTelling();
        }
        expect.finish();
    }

    private void testLimitsOfUse() {
        lastOf512Calls();
        newObjectIsAsBegunWith00();
        beginMakesAllNew();
        beginForAnotherSizeOfRows();
        keysAgain();
        keysMakeRoomForTurns();
        turnsFromNoneToFour();
        turnMadeAgain();
    }

    private void testPlains() {
        setTakesAnyNumber();
        setAndGetAtTheEnds();
        batchOfNothingAndOfOneValue();
        batchTakesOddPowersOnly();
    }

    private void testSealing() {
        sealAtTheEnds();
        sealOverAnyCipher();
        sealWrapsAround();
        openTwoAndThreeParts();
        openWhatIsSpoilt();
        openWhatIsEmpty();
    }

    private void testJoining() {
        joinOverWhatIsTaken();
        joinMissingParts();
        joinWithItself();
        joinChangesTheNumberOfParts();
        joinLeavesFormerPartsOut();
        productOfNothing();
        plainOfNothing();
        plainOverWhatIsTaken();
    }

    private void testSwitching() {
        shrinkThirdPartOfNothing();
        shrinkOverWhatIsTaken();
        turnOfNothing();
        turnOverWhatIsTaken();
        turnByEachOfFour();
    }

    private void testTelling() {
        partAtTheEnds();
        aboutTwoAndThreeParts();
        dropAndUseAgain();
        countFromNoneToFull();
    }

    private void due(String what, long got, long want) {
        expect.due("KIND " + kind + ": " + what, got, want);
    }

    private void rowDue(String what, long[] got, long[] want) {
        expect.row("KIND " + kind + ": " + what, got, want);
    }

    private void refused(String what, Class<? extends RuntimeException> want, Expect.Call call) {
        expect.refused("KIND " + kind + ": " + what, want, call);
    }

    private Desk withKeys(int seed) {
        Desk x = new Desk();
        x.begin(kind, seed);
        x.keys();
        return x;
    }

    /** CIPHERS 0 and 1 of 2 PARTS, 2 and 3 of 3 PARTS, PLAIN 0 with coefficients, TURN 3. */
    private Desk withCiphers(int seed) {
        Desk x = withKeys(seed);
        x.turnKey(3);
        x.set(0, 0, 2);
        x.set(0, 1, 1);
        x.seal(0, 0);
        x.set(1, n - 1, t - 1);
        x.seal(1, 1);
        x.join(2, 2, 0, 1);
        x.join(3, 2, 1, 1);
        return x;
    }

    /** All places taken, some with 3 PARTS, four TURNS and PLAINS that are not 0. */
    private static void fill(Desk x) {
        int n = x.count(1);
        x.keys();
        for (int g : new int[] {3, 5, 2 * n - 3, 2 * n - 1}) {
            x.turnKey(g);
        }
        for (int p = 0; p < 8; p++) {
            x.set(p, 0, p + 1);
            x.set(p, 1, -1);
            x.set(p, n - 1, 3);
        }
        for (int c = 0; c < 8; c++) {
            x.seal(c, c);
        }
        for (int c = 8; c < 16; c++) {
            x.join(c, 2, c - 8, 0);
        }
    }

    private void partsDue(String what, Desk x, int got, Desk y, int want) {
        int parts = y.about(want, 0);
        due(what + ": PARTS", x.about(got, 0), parts);
        for (int k = 0; k < parts; k++) {
            rowDue(what + ", PART " + k, x.partRow(got, k, n), y.partRow(want, k, n));
        }
    }

    /** "An object is used for at most 512 calls": the 512th is still answered. */
    private void lastOf512Calls() {
        Desk x = new Desk();
        x.begin(kind, -5);
        while (x.calls() < Desk.MOST_CALLS - 1) {
            x.keys();
        }
        due("the 512th call, behind keys", x.count(7),
                new Draws(-5).skip(510 * Draws.ofKeys(n)).chance() / 65_536);
        Desk y = withKeys(-6);
        while (y.calls() < Desk.MOST_CALLS - 1) {
            y.seal(y.calls() % 16, 0);
        }
        due("the 512th call, behind seals", y.count(7),
                new Draws(-6).skip(Draws.ofKeys(n) + 509 * 3 * n).chance() / 65_536);
        Desk z = withKeys(-7);
        z.turnKey(2 * n - 1);
        z.set(0, 1, 1);
        z.seal(0, 0);
        z.join(15, 1, 0, 0);
        while (z.calls() < Desk.MOST_CALLS - 2) {
            z.turn(1, 0, 2 * n - 1);
        }
        z.open(1, 1);
        due("the 512th call, behind turns", z.get(1, n - 1), t - 1);
    }

    /** Promise 1: "KIND 0, CHANCE 0, no KEYS, all empty or 0." */
    private void newObjectIsAsBegunWith00() {
        Desk begun = new Desk();
        begun.begin(0, 0);
        expect.texts("a new object", Snapshot.of(new Desk()), Snapshot.of(begun));
        Desk x = new Desk();
        due("no KEYS", x.count(4), 0);
        due("no TURNS", x.count(5), 0);
        due("no CIPHERS", x.count(6), 0);
        due("keys without begin", x.keys(), 8);
        due("CHANCE went on from 0", x.count(7), new Draws(0).skip(Draws.ofKeys(8)).chance() / 65_536);
    }

    /** Promise 2: "no KEYS, all CIPHERS empty, all PLAINS 0". */
    private void beginMakesAllNew() {
        for (int before = 0; before < 3; before++) {
            for (int seed : new int[] {0, 7, -1, Integer.MIN_VALUE}) {
                Desk used = new Desk();
                used.begin(before, 99);
                fill(used);
                due("it was full", used.count(6), 16);
                due("begin again", used.begin(kind, seed), n);
                due("no KEYS", used.count(4), 0);
                due("no TURNS", used.count(5), 0);
                due("no CIPHERS", used.count(6), 0);
                Desk fresh = new Desk();
                fresh.begin(kind, seed);
                expect.texts("KIND " + before + ", then " + kind, Snapshot.of(used), Snapshot.of(fresh));
            }
        }
    }

    /** Promise 2: "Another KIND": the last coefficient is another one, and no older one comes back. */
    private void beginForAnotherSizeOfRows() {
        Desk x = new Desk();
        x.begin(2, 1);
        for (int i = 0; i < 32; i++) {
            x.set(0, i, i + 1);
        }
        x.begin(kind, 1);
        due("the last is there", x.set(0, n - 1, 5), 0);
        refused("the next is not", NONE, () -> x.get(0, n));
        refused("the next is not", NONE, () -> x.set(0, n, 1));
        x.keys();
        x.seal(0, 0);
        refused("nor in a PART", NONE, () -> x.part(0, 0, n));
        x.begin(2, 1);
        rowDue("all 0 again", x.plainRow(0, 32), new long[32]);
    }

    /** Promise 3: "New KEYS: s, PUBLIC, RELIN; no TURNS, all CIPHERS empty (PLAINS stay)". */
    private void keysAgain() {
        int seed = -1234;
        Desk used = new Desk();
        used.begin(kind, seed);
        fill(used);
        int drawn = Draws.ofKeys(n) + 4 * 18 * n + 8 * 3 * n;
        Desk fresh = new Desk();
        fresh.begin(kind, (int) new Draws(seed).skip(drawn).chance());
        for (int p = 0; p < 8; p++) {
            fresh.set(p, 0, p + 1);
            fresh.set(p, 1, -1);
            fresh.set(p, n - 1, 3);
        }
        due("keys", fresh.keys(), n);
        due("keys again", used.keys(), n);
        due("all CIPHERS are empty", used.count(6), 0);
        due("no TURNS", used.count(5), 0);
        expect.texts("KIND " + kind + ", keys again", Snapshot.of(used), Snapshot.of(fresh));
    }

    /** Promise 3: "no TURNS": four may be made again, and the old ones are not there. */
    private void keysMakeRoomForTurns() {
        Desk x = new Desk();
        x.begin(kind, 3);
        fill(x);
        due("four", x.count(5), 4);
        x.keys();
        x.seal(0, 0);
        for (int g : new int[] {3, 5, 2 * n - 3, 2 * n - 1}) {
            refused("an old TURN", STATE, () -> x.turn(1, 0, g));
        }
        int made = 0;
        for (int g : new int[] {7, 9, 11, 2 * n - 1}) {
            made++;
            due("TURNS again", x.turnKey(g), made);
        }
        refused("a fifth again", STATE, () -> x.turnKey(3));
    }

    /** Promise 4: "how many there are", "or there are 4 others". */
    private void turnsFromNoneToFour() {
        Desk x = withKeys(4);
        due("none", x.count(5), 0);
        int[] turns = {2 * n - 1, 3, 9, 5};
        for (int i = 0; i < 4; i++) {
            due("turnKey(" + turns[i] + ")", x.turnKey(turns[i]), i + 1);
            due("the same again", x.turnKey(turns[i]), i + 1);
            due("the first again", x.turnKey(turns[0]), i + 1);
        }
        refused("a fifth", STATE, () -> x.turnKey(7));
        refused("a wrong one comes before 4 others", ARGUMENT, () -> x.turnKey(2 * n + 1));
        for (int g : turns) {
            due("made again among four", x.turnKey(g), 4);
        }
        due("four", x.count(5), 4);
        due("CHANCE", x.count(7), new Draws(4).skip(Draws.ofKeys(n) + 16 * 18 * n).chance() / 65_536);
    }

    /** Promise 4: "TURN g is made (again, if it is there)": with new DRAWS, and the others stay. */
    private void turnMadeAgain() {
        Desk x = withKeys(5);
        int[] turns = {3, 5, 7, 9};
        for (int g : turns) {
            x.turnKey(g);
        }
        x.set(0, 1, 1);
        x.seal(0, 0);
        for (int i = 0; i < 4; i++) {
            x.turn(1 + i, 0, turns[i]);
        }
        int before = x.count(7);
        x.turnKey(7);
        due("DRAWS were taken", x.count(7) != before ? 1 : 0, 1);
        for (int i = 0; i < 4; i++) {
            x.turn(5 + i, 0, turns[i]);
            boolean same = x.part(1 + i, 1, 0) == x.part(5 + i, 1, 0) && x.part(1 + i, 1, 1) == x.part(5 + i, 1, 1);
            due("TURN " + turns[i] + " is the same", same ? 1 : 0, turns[i] == 7 ? 0 : 1);
            x.open(1, 5 + i);
            long[] want = Rows.at(Rows.single(n, 1, 1), turns[i]);
            want[turns[i] % n] = want[turns[i] % n] == 1 ? 1 : t - 1;
            rowDue("it still turns by " + turns[i], x.plainRow(1, n), want);
        }
    }

    /** Promise 5: "becomes v modulo T (0 .. T - 1): what it was." */
    private void setTakesAnyNumber() {
        Desk x = new Desk();
        x.begin(kind, 0);
        int[] numbers = {0, 1, t - 1, t, t + 1, 2 * t - 1, 2 * t, -1, -t + 1, -t, -t - 1, -2 * t, Integer.MAX_VALUE,
            Integer.MAX_VALUE - 1, Integer.MIN_VALUE, Integer.MIN_VALUE + 1};
        long before = 0;
        for (int v : numbers) {
            due("before " + v, x.set(0, 0, v), before);
            before = ((long) v % t + t) % t;
            due(v + " modulo T", x.get(0, 0), before);
        }
    }

    /** Promises 5 and 6: "no such PLAIN, or i." */
    private void setAndGetAtTheEnds() {
        Desk x = new Desk();
        x.begin(kind, 0);
        for (int p : new int[] {0, 7}) {
            for (int i : new int[] {0, n - 1}) {
                due("set at an end", x.set(p, i, p + i + 1), 0);
                due("get at an end", x.get(p, i), (p + i + 1) % t);
                refused("before it", NONE, () -> x.get(p, -1));
                refused("behind it", NONE, () -> x.get(p, n));
                refused("set before it", NONE, () -> x.set(p, -1, 1));
                refused("set behind it", NONE, () -> x.set(p, n, 1));
            }
        }
        for (int p : new int[] {-1, 8}) {
            refused("set in no PLAIN", NONE, () -> x.set(p, 0, 1));
            refused("get in no PLAIN", NONE, () -> x.get(p, 0));
        }
        long[] want = new long[n];
        want[0] = 1;
        want[n - 1] = n % t;
        rowDue("nothing beside them", x.plainRow(0, n), want);
        rowDue("nor in the next", x.plainRow(1, n), new long[n]);
    }

    private long valueAt(long[] row, int i) {
        long z = new long[] {3, 19, 11}[kind];
        long point = 1;
        for (int k = 0; k < 2 * i + 1; k++) {
            point = point * z % t;
        }
        long value = 0;
        for (int j = n - 1; j >= 0; j--) {
            value = (value * point + row[j]) % t;
        }
        return value;
    }

    /** Promise 7: "the POLYNOMIAL that has value i at z^(2 i + 1), modulo T". */
    private void batchOfNothingAndOfOneValue() {
        Desk empty = new Desk();
        empty.begin(kind, 0);
        due("batch of 0", empty.batch(7, false), 0);
        rowDue("0 stays 0", empty.plainRow(7, n), new long[n]);
        due("batch of 0 back", empty.batch(0, true), 0);
        rowDue("0 stays 0", empty.plainRow(0, n), new long[n]);
        refused("batch(-1)", NONE, () -> empty.batch(-1, false));
        refused("batch(8)", NONE, () -> empty.batch(8, false));
        for (int i = 0; i < n; i++) {
            Desk x = new Desk();
            x.begin(kind, 0);
            x.set(7, i, t - 1);
            int answer = x.batch(7, false);
            long[] row = x.plainRow(7, n);
            due("batch answers the first coefficient", answer, row[0]);
            for (int j = 0; j < n; j++) {
                due("only value " + i + ", at " + j, valueAt(row, j), j == i ? t - 1 : 0);
            }
            due("back answers the first value", x.batch(7, true), i == 0 ? t - 1 : 0);
            rowDue("back", x.plainRow(7, n), Rows.single(n, i, t - 1));
        }
    }

    /** Promise 7: "its values at these, in order": of x^(N - 1), whose powers wrap around most. */
    private void batchTakesOddPowersOnly() {
        Desk x = new Desk();
        x.begin(kind, 0);
        x.set(0, n - 1, 1);
        x.set(0, 0, t - 1);
        long[] row = x.plainRow(0, n);
        due("back answers the first value", x.batch(0, true), valueAt(row, 0));
        for (int i = 0; i < n; i++) {
            due("value " + i + " of x^(N - 1) - 1", x.get(0, i), valueAt(row, i));
        }
    }

    /** Promise 8: "no such place of a CIPHER or PLAIN". */
    private void sealAtTheEnds() {
        Desk x = new Desk();
        x.begin(kind, 8);
        refused("no KEYS", STATE, () -> x.seal(15, 7));
        x.keys();
        for (int c : new int[] {0, 15}) {
            for (int p : new int[] {0, 7}) {
                x.set(p, 0, c + p);
                due("seal answers the BUDGET", x.seal(c, p), x.about(c, 1));
                x.open(1, c);
                due("sealed from an end to an end", x.get(1, 0), (c + p) % t);
            }
        }
        refused("seal(-1, 0)", NONE, () -> x.seal(-1, 0));
        refused("seal(16, 0)", NONE, () -> x.seal(16, 0));
        refused("seal(0, -1)", NONE, () -> x.seal(0, -1));
        refused("seal(0, 8)", NONE, () -> x.seal(0, 8));
    }

    /** Promise 8: "CIPHER c is a PLAIN SEALED": whatever the place held, it has 2 PARTS then. */
    private void sealOverAnyCipher() {
        Desk x = withCiphers(9);
        for (int c : new int[] {0, 2, 9}) {
            x.seal(c, 0);
            due("2 PARTS", x.about(c, 0), 2);
            refused("no third", NONE, () -> x.part(c, 2, 0));
        }
        due("sealed twice is not alike", x.part(0, 0, 0) != x.part(2, 0, 0) ? 1 : 0, 1);
    }

    /** "SEALED m: [...] (b u + e + D m, a u + f)", modulo Q, with the greatest m. */
    private void sealWrapsAround() {
        int seed = Integer.MIN_VALUE;
        Desk x = withKeys(seed);
        for (int i = 0; i < n; i++) {
            x.set(0, i, t - 1);
        }
        x.seal(0, 0);
        long[] s = new Draws(seed).ternary(n);
        long[] a = new Draws(seed).skip(n).uniform(n);
        long[] hidden = new Draws(seed).skip(3 * n).error(n);
        long[] b = Rows.scaled(Rows.plus(Rows.times(a, s), hidden), -1);
        Draws draws = new Draws(seed).skip(Draws.ofKeys(n));
        long[] u = draws.ternary(n);
        long[] e = draws.error(n);
        long[] f = draws.error(n);
        long[] lifted = Rows.filled(n, (t - 1) * (Q / t));
        rowDue("b u + e + D m", x.partRow(0, 0, n), Rows.plus(Rows.plus(Rows.times(b, u), e), lifted));
        rowDue("a u + f", x.partRow(0, 1, n), Rows.plus(Rows.times(a, u), f));
    }

    /** Promise 9: "A PLAIN is a CIPHER OPENED", of 2 and of 3 PARTS; the PLAIN's own numbers are gone. */
    private void openTwoAndThreeParts() {
        Desk x = withCiphers(10);
        for (int i = 0; i < n; i++) {
            x.set(7, i, 5);
        }
        due("open answers the BUDGET", x.open(7, 0), x.about(0, 1));
        rowDue("2 + x", x.plainRow(7, n), Rows.plus(Rows.constant(n, 2), Rows.single(n, 1, 1)));
        due("open of 3 PARTS answers the BUDGET", x.open(7, 2), x.about(2, 1));
        // (2 + x)(-x^(N - 1)) is 1 - 2 x^(N - 1).
        rowDue("3 PARTS", x.plainRow(7, n), Rows.plus(Rows.constant(n, 1), Rows.single(n, n - 1, t - 2)));
        due("the CIPHER stays", x.about(2, 0), 3);
        x.open(0, 3);
        rowDue("x^(N - 1) squared", x.plainRow(0, n), Rows.single(n, n - 2, t - 1));
    }

    /** "BUDGET [...] 0 without": a spoilt CIPHER is opened all the same. */
    private void openWhatIsSpoilt() {
        Desk x = withCiphers(11);
        int doubled = 0;
        while (x.about(0, 1) > 0 && doubled < 40) {
            x.join(0, 0, 0, 0);
            doubled++;
        }
        due("open answers 0", x.open(1, 0), 0);
        for (int i = 0; i < n; i++) {
            int got = x.get(1, i);
            due("0 .. T - 1", got >= 0 && got < t ? 1 : 0, 1);
        }
    }

    /** Promise 9: "no such place, or it is empty (so for all that are taken)." */
    private void openWhatIsEmpty() {
        Desk x = withCiphers(12);
        x.drop(0);
        refuseTaking(x, 0, "dropped");
        refuseTaking(x, 15, "never filled");
        x.keys();
        refuseTaking(x, 1, "empty by keys");
        x.seal(1, 0);
        x.begin(kind, 1);
        refuseTaking(x, 1, "empty by begin");
        refuseTaking(x, -1, "before the first");
        refuseTaking(x, 16, "behind the last");
    }

    private void refuseTaking(Desk x, int c, String why) {
        refused("open, " + why, NONE, () -> x.open(0, c));
        refused("join, " + why, NONE, () -> x.join(5, 0, c, c));
        refused("plain, " + why, NONE, () -> x.plain(5, 0, c, 0));
        refused("shrink, " + why, NONE, () -> x.shrink(5, c));
        refused("turn, " + why, NONE, () -> x.turn(5, c, 3));
        refused("part, " + why, NONE, () -> x.part(c, 0, 0));
        refused("about, " + why, NONE, () -> x.about(c, 0));
    }

    /** Promise 10: "CIPHER to is [...]" when to is a, b or both. */
    private void joinOverWhatIsTaken() {
        for (int op = 0; op < 3; op++) {
            int[][] taken = op == 2
                    ? new int[][] {{0, 1}, {0, 0}}
                    : new int[][] {{0, 1}, {0, 0}, {0, 2}, {2, 0}, {2, 3}, {2, 2}};
            for (int[] pair : taken) {
                Desk apart = withCiphers(13);
                apart.join(9, op, pair[0], pair[1]);
                for (int to : pair) {
                    Desk within = withCiphers(13);
                    within.join(to, op, pair[0], pair[1]);
                    partsDue("op " + op + " of " + pair[0] + " and " + pair[1] + " into " + to, within, to, apart, 9);
                }
                due("a is as it was", apart.about(pair[0], 0), pair[0] < 2 ? 2 : 3);
            }
        }
    }

    /** Promise 10: "part by part (a missing PART is 0)". */
    private void joinMissingParts() {
        Desk x = withCiphers(14);
        long[] third = x.partRow(2, 2, n);
        due("2 and 3 PARTS", x.join(9, 0, 0, 2), 3);
        rowDue("0 + third", x.partRow(9, 2, n), third);
        due("3 and 2 PARTS", x.join(9, 0, 2, 0), 3);
        rowDue("third + 0", x.partRow(9, 2, n), third);
        due("2 less 3 PARTS", x.join(9, 1, 0, 2), 3);
        rowDue("0 - third", x.partRow(9, 2, n), Rows.scaled(third, -1));
        due("3 less 2 PARTS", x.join(9, 1, 2, 0), 3);
        rowDue("third - 0", x.partRow(9, 2, n), third);
        due("2 and 2 PARTS", x.join(9, 0, 0, 1), 2);
        refused("no third of 2 and 2", NONE, () -> x.part(9, 2, 0));
    }

    /** Promise 10: a - a has as many PARTS as a, all of them 0. */
    private void joinWithItself() {
        Desk x = withCiphers(15);
        due("2 PARTS of 0", x.join(0, 1, 0, 0), 2);
        due("3 PARTS of 0", x.join(2, 1, 2, 2), 3);
        for (int k = 0; k < 3; k++) {
            rowDue("PART " + k + " of 0", x.partRow(2, k, n), new long[n]);
        }
        due("no NOISE", x.about(2, 2), 0);
        due("all BUDGET", x.about(2, 1), 27);
        due("they are not empty", x.count(6), 4);
    }

    /** Promise 10: "how many PARTS": a place's third PART comes and goes. */
    private void joinChangesTheNumberOfParts() {
        Desk x = withCiphers(16);
        due("3 PARTS become 2", x.join(2, 0, 0, 1), 2);
        refused("the third is gone", NONE, () -> x.part(2, 2, 0));
        long[] third = x.partRow(3, 2, n);
        due("2 PARTS become 3", x.join(2, 0, 2, 3), 3);
        rowDue("the old third is not added", x.partRow(2, 2, n), third);
        x.plain(3, 1, 0, 0);
        due("3 PARTS become 2 by plain", x.about(3, 0), 2);
        due("so it may be multiplied", x.join(3, 2, 3, 0), 3);
        refused("and now it may not", STATE, () -> x.join(4, 2, 3, 0));
    }

    /** Promise 10: "a missing PART is 0", though the place once had it, in whatever way it went. */
    private void joinLeavesFormerPartsOut() {
        for (int way = 0; way < 8; way++) {
            Desk x = withCiphers(28);
            leaveTwoParts(x, way);
            due("way " + way + ": 2 PARTS are left", x.about(2, 0), 2);
            x.seal(4, 0);
            x.join(4, 2, 4, 4);
            long[] third = x.partRow(4, 2, n);
            x.join(5, 0, 2, 4);
            rowDue("way " + way + ", as a", x.partRow(5, 2, n), third);
            x.join(5, 0, 4, 2);
            rowDue("way " + way + ", as b", x.partRow(5, 2, n), third);
            x.join(5, 1, 4, 2);
            rowDue("way " + way + ", taken off", x.partRow(5, 2, n), third);
            x.join(5, 1, 2, 4);
            rowDue("way " + way + ", taken off from", x.partRow(5, 2, n), Rows.scaled(third, -1));
        }
    }

    /** CIPHER 2 had 3 PARTS and gets 2. */
    private static void leaveTwoParts(Desk x, int way) {
        switch (way) {
            case 0 -> x.seal(2, 0);
            case 1 -> x.join(2, 0, 0, 1);
            case 2 -> x.plain(2, 0, 0, 0);
            case 3 -> x.plain(2, 1, 0, 0);
            case 4 -> x.shrink(2, 2);
            case 5 -> x.turn(2, 0, 3);
            case 6 -> {
                x.drop(2);
                x.join(2, 1, 0, 1);
            }
            default -> {
                x.keys();
                x.seal(2, 0);
            }
        }
    }

    /** Promise 10: "2: their product" of CIPHERS whose PARTS are 0. */
    private void productOfNothing() {
        Desk x = withCiphers(17);
        x.join(5, 1, 0, 0);
        due("0 times a", x.join(6, 2, 5, 0), 3);
        for (int k = 0; k < 3; k++) {
            rowDue("PART " + k + " of 0 times a", x.partRow(6, k, n), new long[n]);
        }
        due("its BUDGET", x.about(6, 1), 27);
        due("0 times 0 within its place", x.join(5, 2, 5, 5), 3);
    }

    /** Promise 11: a PLAIN that is 0, 1, or T - 1, and 3 PARTS. */
    private void plainOfNothing() {
        Desk x = withCiphers(18);
        for (int from : new int[] {0, 2}) {
            int parts = from == 0 ? 2 : 3;
            x.set(2, 0, 0);
            due("0 added", x.plain(9, 0, from, 2), parts);
            rowDue("nothing was added", x.partRow(9, 0, n), x.partRow(from, 0, n));
            due("times 0", x.plain(9, 1, from, 2), parts);
            rowDue("the last PART is 0", x.partRow(9, parts - 1, n), new long[n]);
            x.set(2, 0, t + 1);
            x.plain(9, 1, from, 2);
            due("times 1", x.part(9, parts - 1, n - 1), x.part(from, parts - 1, n - 1));
            x.set(2, 0, -1);
            x.plain(9, 1, from, 2);
            due("times T - 1", x.part(9, parts - 1, 0), (t - 1L) * x.part(from, parts - 1, 0) % Q);
            x.plain(9, 0, from, 2);
            due("D (T - 1) added", x.part(9, 0, 0), (x.part(from, 0, 0) + Q / t * (t - 1)) % Q);
            due("to the first alone", x.part(9, parts - 1, 0), x.part(from, parts - 1, 0));
        }
    }

    /** Promise 11: "CIPHER to is a, [...]" when to is a. */
    private void plainOverWhatIsTaken() {
        for (int op = 0; op < 2; op++) {
            for (int from : new int[] {0, 2}) {
                Desk apart = withCiphers(19);
                apart.plain(9, op, from, 0);
                Desk within = withCiphers(19);
                due("PARTS", within.plain(from, op, from, 0), from == 0 ? 2 : 3);
                partsDue("plain " + op + " within " + from, within, from, apart, 9);
            }
        }
    }

    /** Promise 12: "the first two PARTS of a plus RELIN APPLIED to the third", the third being 0. */
    private void shrinkThirdPartOfNothing() {
        Desk x = withCiphers(20);
        x.join(9, 1, 2, 2);
        x.join(9, 0, 9, 0);
        due("3 PARTS, the third 0", x.about(9, 0), 3);
        due("shrink answers the BUDGET", x.shrink(10, 9), x.about(0, 1));
        partsDue("the first two stay", x, 10, x, 0);
        refused("it can't be shrunk again", STATE, () -> x.shrink(11, 10));
        due("the taken one still has 3 PARTS", x.about(9, 0), 3);
    }

    /** Promise 12: "CIPHER to is [...]" when to is a, is empty, or has 3 PARTS. */
    private void shrinkOverWhatIsTaken() {
        Desk apart = withCiphers(21);
        int budget = apart.shrink(9, 2);
        apart.shrink(3, 2);
        partsDue("into 3 PARTS", apart, 3, apart, 9);
        Desk within = withCiphers(21);
        due("the same BUDGET", within.shrink(2, 2), budget);
        partsDue("within its place", within, 2, apart, 9);
        refused("no third", NONE, () -> within.part(2, 2, 0));
    }

    /** Promise 13: "(first PART at x^g, 0) plus TURN g APPLIED to the second PART at x^g", the second being 0. */
    private void turnOfNothing() {
        Desk x = withCiphers(22);
        x.turnKey(2 * n - 1);
        x.join(9, 1, 0, 0);
        due("nothing turned", x.turn(10, 9, 3), 27);
        rowDue("it stays 0", x.partRow(10, 0, n), new long[n]);
        x.plain(9, 0, 9, 0);
        long[] first = x.partRow(9, 0, n);
        x.turn(10, 9, 2 * n - 1);
        rowDue("the first at x^(2 N - 1)", x.partRow(10, 0, n), Rows.at(first, 2 * n - 1));
        rowDue("the second stays 0", x.partRow(10, 1, n), new long[n]);
    }

    /** Promise 13: "CIPHER to is a turned" when to is a, is empty, or has 3 PARTS. */
    private void turnOverWhatIsTaken() {
        Desk apart = withCiphers(23);
        int budget = apart.turn(9, 0, 3);
        due("the BUDGET", apart.about(9, 1), budget);
        apart.turn(2, 0, 3);
        partsDue("into 3 PARTS", apart, 2, apart, 9);
        Desk within = withCiphers(23);
        due("the same BUDGET", within.turn(0, 0, 3), budget);
        partsDue("within its place", within, 0, apart, 9);
        refused("3 PARTS are not turned", STATE, () -> within.turn(2, 2, 3));
    }

    /** Promise 13: "there is no TURN g", with all four there. */
    private void turnByEachOfFour() {
        Desk x = withKeys(24);
        int[] turns = {5, 2 * n - 1, 3, 11};
        for (int g : turns) {
            x.turnKey(g);
        }
        x.set(0, 1, 1);
        x.seal(0, 0);
        for (int g : turns) {
            x.turn(1, 0, g);
            x.open(1, 1);
            long[] want = new long[n];
            want[g % n] = g < n ? 1 : t - 1;
            rowDue("x at x^" + g, x.plainRow(1, n), want);
        }
        for (int g : new int[] {1, 7, 9, 13, 2 * n + 1, 2 * n + 3, -5, 0}) {
            refused("no TURN " + g, STATE, () -> x.turn(1, 0, g));
        }
    }

    /** Promise 14: "there is none, too": the last PART and coefficient of 2 and of 3 PARTS, and those behind. */
    private void partAtTheEnds() {
        Desk x = withCiphers(25);
        for (int c : new int[] {0, 2}) {
            int parts = c == 0 ? 2 : 3;
            for (int k = 0; k < parts; k++) {
                for (int i : new int[] {0, n - 1}) {
                    int got = x.part(c, k, i);
                    due("0 .. Q - 1", got >= 0 && got < Q ? 1 : 0, 1);
                }
                int last = k;
                refused("no coefficient N", NONE, () -> x.part(c, last, n));
                refused("no coefficient -1", NONE, () -> x.part(c, last, -1));
            }
            refused("no PART behind", NONE, () -> x.part(c, parts, 0));
            refused("no PART before", NONE, () -> x.part(c, -1, 0));
        }
        refused("nothing of an empty one", NONE, () -> x.part(15, 0, 0));
        x.seal(15, 0);
        due("the last place", x.part(15, 1, n - 1) >= 0 ? 1 : 0, 1);
        refused("no place behind", NONE, () -> x.part(16, 0, 0));
        refused("no place before", NONE, () -> x.part(-1, 0, 0));
    }

    /** Promise 15: "what 0 how many PARTS, 1 its BUDGET, 2 its NOISE", and what lies beside. */
    private void aboutTwoAndThreeParts() {
        Desk x = withCiphers(26);
        for (int c : new int[] {0, 2}) {
            due("PARTS", x.about(c, 0), c == 0 ? 2 : 3);
            long noise = x.about(c, 2);
            int budget = x.about(c, 1);
            due("the BUDGET fits", noise << (budget + 1) < Q ? 1 : 0, 1);
            due("the next does not", noise << (budget + 2) < Q ? 1 : 0, 0);
            refused("what -1", ARGUMENT, () -> x.about(c, -1));
            refused("what 3", ARGUMENT, () -> x.about(c, 3));
        }
        refused("an empty one comes before what 3", NONE, () -> x.about(15, 3));
    }

    /** Promise 16: "CIPHER c is empty: how many PARTS it had." */
    private void dropAndUseAgain() {
        Desk x = withCiphers(27);
        due("3 PARTS", x.drop(2), 3);
        due("none the second time", x.drop(2), 0);
        due("2 PARTS", x.drop(0), 2);
        due("never filled", x.drop(15), 0);
        due("two are left", x.count(6), 2);
        refused("drop(-1)", NONE, () -> x.drop(-1));
        refused("drop(16)", NONE, () -> x.drop(16));
        due("used again", x.join(2, 0, 1, 1), 2);
        refused("without the old third", NONE, () -> x.part(2, 2, 0));
        due("the sum of it and 3 PARTS", x.join(2, 0, 2, 3), 3);
        rowDue("only the third of the other", x.partRow(2, 2, n), x.partRow(3, 2, n));
        x.seal(15, 0);
        due("the last place", x.drop(15), 2);
    }

    /** Promise 17: "4 whether there are KEYS (1); 5 TURNS; 6 CIPHERS that are not empty; [...] Else -1." */
    private void countFromNoneToFull() {
        Desk x = new Desk();
        x.begin(kind, -1);
        int[] none = {kind, n, t, new int[] {3, 19, 11}[kind], 0, 0, 0, 65_535};
        for (int what = 0; what < 8; what++) {
            due("count(" + what + ")", x.count(what), none[what]);
        }
        fill(x);
        int[] full = {kind, n, t, none[3], 1, 4, 16};
        for (int what = 0; what < 7; what++) {
            due("count(" + what + ") when full", x.count(what), full[what]);
        }
        for (int what : new int[] {Integer.MIN_VALUE, -1, 8, Integer.MAX_VALUE}) {
            due("count(" + what + ")", x.count(what), -1);
        }
        for (int c = 15; c >= 0; c--) {
            x.drop(c);
            due("CIPHERS left", x.count(6), c);
        }
        due("KEYS stay", x.count(4), 1);
    }
}
