import java.util.ArrayList;
import java.util.List;
import java.util.NoSuchElementException;

/**
 * "What a call throws is looked at in the order in which it stands there; then nothing changes.": every refusal of
 * the document, with what comes first where two are due, and beside each a like object that was spared the call.
 */
public final class RefusalsTest {
    private static final Class<NoSuchElementException> NONE = NoSuchElementException.class;
    private static final Class<IllegalArgumentException> ARGUMENT = IllegalArgumentException.class;
    private static final Class<IllegalStateException> STATE = IllegalStateException.class;
    private static final int[] SIZES = {8, 16, 32};
    private static final int[] NO_PLAIN = {Integer.MIN_VALUE, -1, 8, Integer.MAX_VALUE};
    private static final int[] NO_PLACE = {Integer.MIN_VALUE, -1, 16, Integer.MAX_VALUE};
    /** What stands in the CIPHERS when there are KEYS. */
    private static final int TWO = 0;
    private static final int THREE = 1;
    private static final int EMPTY = 2;
    private static final int NOT_TAKEN = 15;
    /** Places that are refused when they are taken: none, and an empty one. */
    private static final int[] NOTHING_TO_TAKE = {Integer.MIN_VALUE, -1, 16, Integer.MAX_VALUE, EMPTY};

    private enum Stage { NEW, WITHOUT_KEYS, WITH_KEYS, WITH_FOUR_TURNS }

    private interface Asked {
        int of(Desk x);
    }

    private record Refusal(String name, Class<? extends RuntimeException> want, Asked asked) { }

    private final Expect expect;
    private final int kind;
    private final int n;
    private final List<Refusal> refusals = new ArrayList<>();

    private RefusalsTest(Expect expect, int kind) {
        this.expect = expect;
        this.kind = kind;
        n = SIZES[kind];
    }

    public static void main(String[] args) {
        Expect expect = new Expect();
        for (int kind = 0; kind < 3; kind++) {
            RefusalsTest test = new RefusalsTest(expect, kind);
            test.refuseWithoutKeys();
            test.checkIn(Stage.WITHOUT_KEYS);
            if (kind == 0) {
                test.checkIn(Stage.NEW);
            }
            test = new RefusalsTest(expect, kind);
            test.refuseAnyTime();
            test.refuseTakingCiphers();
            test.refuseTurns();
            test.checkIn(Stage.WITH_KEYS);
            test = new RefusalsTest(expect, kind);
            test.refuseAnyTime();
            test.refuseFifthTurn();
            test.checkIn(Stage.WITH_FOUR_TURNS);
        }
        expect.finish();
    }

    private Desk prepared(Stage stage) {
        Desk x = new Desk();
        if (stage == Stage.NEW) {
            return x;
        }
        x.begin(kind, -20 - kind);
        for (int p = 0; p < 8; p++) {
            x.set(p, 0, p + 3);
            x.set(p, n - 1, -p);
        }
        if (stage == Stage.WITHOUT_KEYS) {
            return x;
        }
        x.keys();
        x.turnKey(3);
        x.turnKey(2 * n - 1);
        x.seal(TWO, 0);
        x.join(THREE, 2, TWO, TWO);
        x.seal(NOT_TAKEN, 7);
        if (stage == Stage.WITH_FOUR_TURNS) {
            x.turnKey(7);
            x.turnKey(5);
        }
        return x;
    }

    private void refuse(String name, Class<? extends RuntimeException> want, Asked asked) {
        refusals.add(new Refusal(name, want, asked));
    }

    private void checkIn(Stage stage) {
        List<String> spared = Snapshot.of(prepared(stage));
        for (Refusal refusal : refusals) {
            String name = "KIND " + kind + ", " + stage + ": " + refusal.name;
            Desk pestered = prepared(stage);
            expect.refused(name, refusal.want, () -> refusal.asked.of(pestered));
            expect.texts(name + ", afterwards", Snapshot.of(pestered), spared);
        }
    }

    /** Promises 2, 4, 5, 6, 7, 8, 9, 16: what is refused whether or not there are KEYS. */
    private void refuseAnyTime() {
        for (int wrong : new int[] {Integer.MIN_VALUE, -1, 3, Integer.MAX_VALUE}) {
            refuse("begin: no such KIND " + wrong, ARGUMENT, x -> x.begin(wrong, 1));
        }
        for (int g : new int[] {Integer.MIN_VALUE, -3, -1, 0, 1, 2, 4, 2 * n, 2 * n + 1, Integer.MAX_VALUE}) {
            refuse("turnKey: g " + g, ARGUMENT, x -> x.turnKey(g));
        }
        for (int p : NO_PLAIN) {
            refuse("set: no such PLAIN " + p, NONE, x -> x.set(p, 0, 5));
            refuse("get: no such PLAIN " + p, NONE, x -> x.get(p, 0));
            refuse("batch: no such PLAIN " + p, NONE, x -> x.batch(p, false));
            refuse("batch back: no such PLAIN " + p, NONE, x -> x.batch(p, true));
            refuse("seal: no such PLAIN " + p, NONE, x -> x.seal(TWO, p));
            refuse("open: no such PLAIN " + p, NONE, x -> x.open(p, TWO));
        }
        for (int i : new int[] {Integer.MIN_VALUE, -1, n, Integer.MAX_VALUE}) {
            refuse("set: no i " + i, NONE, x -> x.set(0, i, 5));
            refuse("set: no i " + i + " in the last PLAIN", NONE, x -> x.set(7, i, 5));
            refuse("get: no i " + i, NONE, x -> x.get(0, i));
            refuse("set: neither PLAIN nor i " + i, NONE, x -> x.set(8, i, 5));
        }
        for (int c : NO_PLACE) {
            refuse("seal: no such place " + c, NONE, x -> x.seal(c, 0));
            refuse("seal: neither place nor PLAIN " + c, NONE, x -> x.seal(c, 8));
            refuse("drop: no such place " + c, NONE, x -> x.drop(c));
        }
    }

    /** Promises 4 and 8 without KEYS; all CIPHERS are empty then, so whatever takes one is refused first for that. */
    private void refuseWithoutKeys() {
        refuseAnyTime();
        refuse("turnKey: no KEYS, the least TURN", STATE, x -> x.turnKey(3));
        refuse("turnKey: no KEYS, the greatest TURN", STATE, x -> x.turnKey(2 * n - 1));
        refuse("seal: no KEYS", STATE, x -> x.seal(0, 0));
        refuse("seal: no KEYS, the last places", STATE, x -> x.seal(15, 7));
        for (int c : new int[] {-1, 0, 15, 16}) {
            refuse("open: nothing at " + c, NONE, x -> x.open(0, c));
            for (int op : new int[] {-1, 0, 1, 2, 3}) {
                refuse("join: nothing at " + c + ", op " + op, NONE, x -> x.join(0, op, c, c));
                refuse("plain: nothing at " + c + ", op " + op, NONE, x -> x.plain(0, op, c, 0));
            }
            refuse("shrink: nothing at " + c, NONE, x -> x.shrink(0, c));
            refuse("turn: nothing at " + c, NONE, x -> x.turn(0, c, 3));
            refuse("part: nothing at " + c, NONE, x -> x.part(c, 0, 0));
            for (int what = -1; what <= 3; what++) {
                int asked = what;
                refuse("about: nothing at " + c + ", what " + what, NONE, x -> x.about(c, asked));
            }
        }
    }

    /** Promises 9 to 12, 14 and 15 with CIPHERS of 2 and of 3 PARTS. */
    private void refuseTakingCiphers() {
        for (int c : NOTHING_TO_TAKE) {
            refuse("open: nothing at " + c, NONE, x -> x.open(0, c));
            refuse("open: no PLAIN and nothing at " + c, NONE, x -> x.open(8, c));
            refuse("shrink: nothing at " + c, NONE, x -> x.shrink(THREE, c));
            refuse("part: nothing at " + c, NONE, x -> x.part(c, 0, 0));
            for (int what : new int[] {-1, 0, 1, 2, 3}) {
                refuse("about: nothing at " + c + ", what " + what, NONE, x -> x.about(c, what));
            }
        }
        for (int to : NO_PLACE) {
            refuse("shrink: no such place " + to, NONE, x -> x.shrink(to, THREE));
            refuse("shrink: no such place " + to + " comes before 2 PARTS", NONE, x -> x.shrink(to, TWO));
        }
        refuse("shrink: 2 PARTS", STATE, x -> x.shrink(NOT_TAKEN, TWO));
        refuse("shrink: 2 PARTS within its place", STATE, x -> x.shrink(TWO, TWO));
        refuse("shrink: 2 PARTS over 3", STATE, x -> x.shrink(THREE, TWO));
        for (int k : new int[] {Integer.MIN_VALUE, -1, 2, 3, Integer.MAX_VALUE}) {
            refuse("part: no PART " + k + " of 2", NONE, x -> x.part(TWO, k, 0));
        }
        for (int k : new int[] {Integer.MIN_VALUE, -1, 3, 4, Integer.MAX_VALUE}) {
            refuse("part: no PART " + k + " of 3", NONE, x -> x.part(THREE, k, 0));
        }
        for (int i : new int[] {Integer.MIN_VALUE, -1, n, Integer.MAX_VALUE}) {
            refuse("part: no coefficient " + i, NONE, x -> x.part(TWO, 1, i));
            refuse("part: no coefficient " + i + " of the third", NONE, x -> x.part(THREE, 2, i));
        }
        for (int what : new int[] {Integer.MIN_VALUE, -1, 3, Integer.MAX_VALUE}) {
            refuse("about: what " + what, ARGUMENT, x -> x.about(TWO, what));
            refuse("about: what " + what + " of 3 PARTS", ARGUMENT, x -> x.about(THREE, what));
        }
        refuseJoins();
        refusePlains();
    }

    private void refuseJoins() {
        for (int op : new int[] {Integer.MIN_VALUE, -1, 0, 1, 2, 3, Integer.MAX_VALUE}) {
            for (int c : NOTHING_TO_TAKE) {
                refuse("join: nothing at a " + c + ", op " + op, NONE, x -> x.join(NOT_TAKEN, op, c, TWO));
                refuse("join: nothing at b " + c + ", op " + op, NONE, x -> x.join(NOT_TAKEN, op, TWO, c));
                refuse("join: nothing at a " + c + ", op " + op + ", b of 3", NONE,
                        x -> x.join(NOT_TAKEN, op, c, THREE));
                refuse("join: nothing at b " + c + ", op " + op + ", a of 3", NONE,
                        x -> x.join(NOT_TAKEN, op, THREE, c));
            }
            for (int to : NO_PLACE) {
                refuse("join: no such place " + to + ", op " + op, NONE, x -> x.join(to, op, TWO, TWO));
                refuse("join: no such place " + to + ", op " + op + ", 3 PARTS", NONE,
                        x -> x.join(to, op, THREE, THREE));
            }
        }
        for (int op : new int[] {Integer.MIN_VALUE, -1, 3, Integer.MAX_VALUE}) {
            refuse("join: another op " + op, ARGUMENT, x -> x.join(NOT_TAKEN, op, TWO, TWO));
            refuse("join: another op " + op + " comes before 3 PARTS", ARGUMENT,
                    x -> x.join(NOT_TAKEN, op, THREE, THREE));
        }
        refuse("join: a product, a of 3", STATE, x -> x.join(NOT_TAKEN, 2, THREE, TWO));
        refuse("join: a product, b of 3", STATE, x -> x.join(NOT_TAKEN, 2, TWO, THREE));
        refuse("join: a product, both of 3", STATE, x -> x.join(NOT_TAKEN, 2, THREE, THREE));
        refuse("join: a product of 3 into an empty place", STATE, x -> x.join(EMPTY, 2, THREE, TWO));
        refuse("join: a product of 3 within its place", STATE, x -> x.join(THREE, 2, THREE, TWO));
    }

    private void refusePlains() {
        for (int op : new int[] {Integer.MIN_VALUE, -1, 0, 1, 2, Integer.MAX_VALUE}) {
            for (int c : NOTHING_TO_TAKE) {
                refuse("plain: nothing at " + c + ", op " + op, NONE, x -> x.plain(NOT_TAKEN, op, c, 0));
            }
            for (int to : NO_PLACE) {
                refuse("plain: no such place " + to + ", op " + op, NONE, x -> x.plain(to, op, TWO, 0));
            }
            for (int p : NO_PLAIN) {
                refuse("plain: no such PLAIN " + p + ", op " + op, NONE, x -> x.plain(NOT_TAKEN, op, TWO, p));
            }
        }
        for (int op : new int[] {Integer.MIN_VALUE, -1, 2, Integer.MAX_VALUE}) {
            refuse("plain: another op " + op, ARGUMENT, x -> x.plain(NOT_TAKEN, op, TWO, 0));
            refuse("plain: another op " + op + " of 3 PARTS", ARGUMENT, x -> x.plain(THREE, op, THREE, 0));
        }
    }

    /** Promise 13: no TURN g, and 3 PARTS. */
    private void refuseTurns() {
        for (int g : new int[] {Integer.MIN_VALUE, -3, -1, 0, 1, 2, 3, 5, 2 * n - 1, 2 * n + 3, Integer.MAX_VALUE}) {
            for (int c : NOTHING_TO_TAKE) {
                refuse("turn: nothing at " + c + ", g " + g, NONE, x -> x.turn(NOT_TAKEN, c, g));
            }
            for (int to : NO_PLACE) {
                refuse("turn: no such place " + to + ", g " + g, NONE, x -> x.turn(to, TWO, g));
                refuse("turn: no such place " + to + ", g " + g + ", 3 PARTS", NONE, x -> x.turn(to, THREE, g));
            }
            refuse("turn: 3 PARTS, g " + g, STATE, x -> x.turn(NOT_TAKEN, THREE, g));
            if (g != 3 && g != 2 * n - 1) {
                refuse("turn: no TURN " + g, STATE, x -> x.turn(NOT_TAKEN, TWO, g));
            }
        }
        refuse("turn: 3 PARTS within its place", STATE, x -> x.turn(THREE, THREE, 3));
    }

    /** Promise 4: "there are 4 others". */
    private void refuseFifthTurn() {
        refuse("turnKey: a fifth", STATE, x -> x.turnKey(9));
        refuse("turnKey: the last but one as a fifth", STATE, x -> x.turnKey(2 * n - 3));
        refuse("turn: the fifth is not there", STATE, x -> x.turn(NOT_TAKEN, TWO, 9));
    }
}
