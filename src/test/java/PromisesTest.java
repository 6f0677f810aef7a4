import java.util.NoSuchElementException;

/** Each promise of the document by itself: ordinary inputs, the named edges and wrong inputs. */
public final class PromisesTest {
    private static final Class<NoSuchElementException> NONE = NoSuchElementException.class;
    private static final Class<IllegalArgumentException> ARGUMENT = IllegalArgumentException.class;
    private static final Class<IllegalStateException> STATE = IllegalStateException.class;
    private static final int[] SIZES = {8, 16, 32};
    private static final int[] MODULI = {17, 97, 193};
    private static final long Q = 268_435_399L;

    private final Expect expect = new Expect();

    public static void main(String[] args) {
        PromisesTest test = new PromisesTest();
        test.promise1NewObject();
        test.promise2Begin();
        test.promise2SeedWithoutSign();
        test.promise3Keys();
        test.promise4TurnKey();
        test.promise4TurnKeyAgain();
        test.promise5Set();
        test.promise6Get();
        test.promise7Batch();
        test.promise7BatchThereAndBack();
        test.promise8Seal();
        test.promise9Open();
        test.promise10Sums();
        test.promise10MissingParts();
        test.promise10Product();
        test.promise10Refusals();
        test.promise11Plain();
        test.promise12Shrink();
        test.promise13Turn();
        test.promise13Refusals();
        test.promise14Part();
        test.promise15About();
        test.promise16Drop();
        test.promise17Count();
        test.takenAndWrittenAtOnce();
        test.refusalsChangeNothing();
        test.expect.finish();
    }

    private void due(String what, long got, long want) {
        expect.due(what, got, want);
    }

    private void refused(String what, Class<? extends RuntimeException> want, Expect.Call call) {
        expect.refused(what, want, call);
    }

    /** An object with keys, whose PLAIN 0 is 3 + x and whose CIPHER 0 is that sealed. */
    private static RingCipher sealed(int kind, int seed) {
        RingCipher x = new RingCipher();
        x.begin(kind, seed);
        x.keys();
        x.set(0, 0, 3);
        x.set(0, 1, 1);
        x.seal(0, 0);
        return x;
    }

    /** CHANCE / 65,536 after so many DRAWS. */
    private static long chanceAfter(long seed, int draws) {
        long chance = seed;
        for (int i = 0; i < draws; i++) {
            chance = (1_664_525L * chance + 1_013_904_223L) % (1L << 32);
        }
        return chance / 65_536;
    }

    private static int budgetFor(long noise) {
        int budget = 0;
        for (int k = 1; k <= 27; k++) {
            budget = noise * (1L << (k + 1)) < Q ? k : budget;
        }
        return budget;
    }

    private void plainIs(String what, RingCipher x, int p, int... first) {
        for (int i = 0; i < x.count(1); i++) {
            due(what + ", coefficient " + i, x.get(p, i), i < first.length ? first[i] : 0);
        }
    }

    private void promise1NewObject() {
        RingCipher x = new RingCipher();
        int[] first = {0, 8, 17, 3, 0, 0, 0, 0};
        for (int what = 0; what < 8; what++) {
            due("new: count(" + what + ")", x.count(what), first[what]);
        }
        for (int p = 0; p < 8; p++) {
            plainIs("new: plain " + p, x, p);
        }
        for (int c = 0; c < 16; c++) {
            due("new: drop(" + c + ")", x.drop(c), 0);
        }
        refused("new: seal", STATE, () -> x.seal(0, 0));
        x.keys();
        due("new: CHANCE begins at 0", x.count(7), chanceAfter(0, 8 + 7 * 24));
    }

    private void promise2Begin() {
        for (int kind = 0; kind < 3; kind++) {
            RingCipher x = sealed((kind + 1) % 3, 77);
            x.turnKey(3);
            x.set(7, 7, 5);
            due("begin answers N", x.begin(kind, 65_536 * 9 + 5), SIZES[kind]);
            due("begin: KIND", x.count(0), kind);
            due("begin: N", x.count(1), SIZES[kind]);
            due("begin: T", x.count(2), MODULI[kind]);
            due("begin: no KEYS", x.count(4), 0);
            due("begin: no TURNS", x.count(5), 0);
            due("begin: no CIPHERS", x.count(6), 0);
            due("begin: CHANCE", x.count(7), 9);
            plainIs("begin: plain 0", x, 0);
            plainIs("begin: plain 7", x, 7);
            refused("begin: seal without KEYS", STATE, () -> x.seal(0, 0));
            refused("begin: turnKey without KEYS", STATE, () -> x.turnKey(3));
            refused("begin(-1)", ARGUMENT, () -> x.begin(-1, 4));
            refused("begin(3)", ARGUMENT, () -> x.begin(3, 4));
            due("a refused begin leaves KIND", x.count(0), kind);
            due("a refused begin leaves CHANCE", x.count(7), 9);
        }
        RingCipher y = new RingCipher();
        y.begin(2, 0);
        y.set(0, 31, 8);
        y.begin(0, 0);
        y.begin(2, 0);
        due("begin clears what a smaller KIND does not reach", y.get(0, 31), 0);
    }

    private void promise2SeedWithoutSign() {
        RingCipher x = new RingCipher();
        x.begin(0, -1);
        due("seed -1: CHANCE / 65,536", x.count(7), 65_535);
        x.keys();
        due("seed -1 goes on without sign", x.count(7), chanceAfter(0xFFFFFFFFL, 8 + 7 * 24));
        x.begin(0, Integer.MIN_VALUE);
        due("least seed", x.count(7), 32_768);
    }

    private void promise3Keys() {
        for (int kind = 0; kind < 3; kind++) {
            int n = SIZES[kind];
            RingCipher x = new RingCipher();
            x.begin(kind, 5);
            due("keys answers N", x.keys(), n);
            due("keys draws s, PUBLIC and RELIN", x.count(7), chanceAfter(5, n + 7 * 3 * n));
            due("there are KEYS", x.count(4), 1);
            x.turnKey(3);
            x.set(2, 1, 6);
            x.seal(4, 2);
            due("keys again", x.keys(), n);
            due("no TURNS", x.count(5), 0);
            due("no CIPHERS", x.count(6), 0);
            due("PLAINS stay", x.get(2, 1), 6);
            x.seal(0, 2);
            refused("the TURN is gone", STATE, () -> x.turn(1, 0, 3));
            x.open(3, 0);
            plainIs("the new KEYS seal and open", x, 3, 0, 6);
        }
    }

    private void promise4TurnKey() {
        RingCipher x = new RingCipher();
        refused("a wrong g comes before no KEYS", ARGUMENT, () -> x.turnKey(2));
        refused("no KEYS", STATE, () -> x.turnKey(3));
        x.keys();
        int[] wrong = {Integer.MIN_VALUE, -3, -1, 0, 1, 2, 4, 14, 16, 17, Integer.MAX_VALUE};
        for (int g : wrong) {
            refused("turnKey(" + g + ")", ARGUMENT, () -> x.turnKey(g));
        }
        due("turnKey(15)", x.turnKey(15), 1);
        due("turnKey(3)", x.turnKey(3), 2);
        due("turnKey(5)", x.turnKey(5), 3);
        due("turnKey(15) again", x.turnKey(15), 3);
        due("turnKey(13)", x.turnKey(13), 4);
        int before = x.count(7);
        refused("a fifth", STATE, () -> x.turnKey(7));
        refused("a wrong g comes before four others", ARGUMENT, () -> x.turnKey(17));
        due("a refused turnKey draws nothing", x.count(7), before);
        due("the fourth again", x.turnKey(13), 4);
        due("TURNS", x.count(5), 4);
        x.begin(2, 0);
        x.keys();
        due("turnKey(63) of KIND 2", x.turnKey(63), 1);
        refused("turnKey(65) of KIND 2", ARGUMENT, () -> x.turnKey(65));
    }

    private void promise4TurnKeyAgain() {
        RingCipher x = sealed(0, 1);
        x.begin(0, 1);
        x.keys();
        x.turnKey(3);
        due("turnKey draws six pairs", x.count(7), chanceAfter(1, 8 + 7 * 24 + 6 * 24));
        x.seal(0, 0);
        x.turn(1, 0, 3);
        x.turnKey(3);
        x.turn(2, 0, 3);
        int differing = 0;
        for (int i = 0; i < 8; i++) {
            differing += x.part(1, 1, i) == x.part(2, 1, i) ? 0 : 1;
        }
        due("TURN 3 is another one when it is made again", differing > 0 ? 1 : 0, 1);
    }

    private void promise5Set() {
        for (int kind = 0; kind < 3; kind++) {
            int n = SIZES[kind];
            int t = MODULI[kind];
            RingCipher x = new RingCipher();
            x.begin(kind, 0);
            due("set answers what it was", x.set(7, n - 1, t - 1), 0);
            due("set to T", x.set(7, n - 1, t), t - 1);
            due("set to -1", x.set(7, n - 1, -1), 0);
            due("set to -T", x.set(7, n - 1, -t), t - 1);
            due("set to the least int", x.set(7, n - 1, Integer.MIN_VALUE), 0);
            due("set to the greatest int", x.set(7, n - 1, Integer.MAX_VALUE), Math.floorMod(Integer.MIN_VALUE, t));
            due("last", x.get(7, n - 1), Integer.MAX_VALUE % t);
            refused("set plain -1", NONE, () -> x.set(-1, 0, 1));
            refused("set plain 8", NONE, () -> x.set(8, 0, 1));
            refused("set coefficient -1", NONE, () -> x.set(0, -1, 1));
            refused("set coefficient N", NONE, () -> x.set(0, n, 1));
            refused("set far off", NONE, () -> x.set(Integer.MAX_VALUE, Integer.MIN_VALUE, 1));
            plainIs("other plains stay", x, 0);
        }
    }

    private void promise6Get() {
        for (int kind = 0; kind < 3; kind++) {
            int n = SIZES[kind];
            RingCipher x = new RingCipher();
            x.begin(kind, 0);
            x.set(3, 0, 4);
            x.set(3, n - 1, 9);
            due("get first", x.get(3, 0), 4);
            due("get last", x.get(3, n - 1), 9);
            due("get beside", x.get(4, 0), 0);
            refused("get plain -1", NONE, () -> x.get(-1, 0));
            refused("get plain 8", NONE, () -> x.get(8, 0));
            refused("get coefficient -1", NONE, () -> x.get(0, -1));
            refused("get coefficient N", NONE, () -> x.get(0, n));
            refused("get far off", NONE, () -> x.get(Integer.MIN_VALUE, Integer.MAX_VALUE));
        }
    }

    private void promise7Batch() {
        RingCipher x = new RingCipher();
        x.set(1, 1, 1);
        due("x at z is z", x.batch(1, true), 3);
        int power = 3;
        for (int i = 0; i < 8; i++) {
            due("x at z^(2 i + 1)", x.get(1, i), power);
            power = power * 9 % 17;
        }
        due("back to x", x.batch(1, false), 0);
        plainIs("x again", x, 1, 0, 1);
        for (int i = 0; i < 8; i++) {
            x.set(2, i, 5);
        }
        due("equal values are a constant", x.batch(2, false), 5);
        plainIs("the constant", x, 2, 5);
        refused("batch plain -1", NONE, () -> x.batch(-1, false));
        refused("batch plain 8", NONE, () -> x.batch(8, true));
    }

    private void promise7BatchThereAndBack() {
        for (int kind = 0; kind < 3; kind++) {
            int n = SIZES[kind];
            int t = MODULI[kind];
            RingCipher x = new RingCipher();
            x.begin(kind, 0);
            for (int i = 0; i < n; i++) {
                x.set(0, i, 7 * i * i + 3);
            }
            x.batch(0, false);
            int[] polynomial = new int[n];
            for (int i = 0; i < n; i++) {
                polynomial[i] = x.get(0, i);
            }
            long point = x.count(3);
            for (int i = 0; i < n; i++) {
                long value = 0;
                for (int j = n - 1; j >= 0; j--) {
                    value = (value * point + polynomial[j]) % t;
                }
                due("value " + i + " of KIND " + kind, value, (7 * i * i + 3) % t);
                point = point * x.count(3) % t * x.count(3) % t;
            }
            due("back: the first value", x.batch(0, true), 3);
            due("back: the last value", x.get(0, n - 1), (7 * (n - 1) * (n - 1) + 3) % t);
        }
    }

    private void promise8Seal() {
        for (int kind = 0; kind < 3; kind++) {
            int n = SIZES[kind];
            RingCipher x = new RingCipher();
            x.begin(kind, 31);
            refused("no such place comes before no KEYS", NONE, () -> x.seal(16, 0));
            refused("no such plain comes before no KEYS", NONE, () -> x.seal(0, 8));
            refused("no KEYS", STATE, () -> x.seal(0, 0));
            x.keys();
            x.set(7, n - 1, MODULI[kind] - 1);
            int budget = x.seal(15, 7);
            due("seal draws u, e, f", x.count(7), chanceAfter(31, 8 * n + 14 * n + 3 * n));
            due("seal answers the BUDGET", budget, x.about(15, 1));
            due("two PARTS", x.about(15, 0), 2);
            due("enough BUDGET to open", budget > 5 ? 1 : 0, 1);
            x.open(0, 15);
            due("opens as it was", x.get(0, n - 1), MODULI[kind] - 1);
            due("opens as it was", x.get(0, 0), 0);
            refused("seal cipher -1", NONE, () -> x.seal(-1, 0));
            refused("seal plain -1", NONE, () -> x.seal(0, -1));
        }
        RingCipher y = sealed(0, 4);
        y.join(1, 2, 0, 0);
        y.seal(1, 0);
        due("seal over three PARTS leaves two", y.about(1, 0), 2);
    }

    private void promise9Open() {
        RingCipher x = new RingCipher();
        refused("no such plain", NONE, () -> x.open(8, 0));
        refused("empty", NONE, () -> x.open(0, 0));
        for (int kind = 0; kind < 3; kind++) {
            RingCipher y = sealed(kind, 12);
            y.set(5, 2, 9);
            due("open answers the BUDGET", y.open(5, 0), y.about(0, 1));
            plainIs("opened", y, 5, 3, 1);
            refused("open plain -1", NONE, () -> y.open(-1, 0));
            refused("open plain 8", NONE, () -> y.open(8, 0));
            refused("open cipher -1", NONE, () -> y.open(0, -1));
            refused("open cipher 16", NONE, () -> y.open(0, 16));
            refused("open an empty one", NONE, () -> y.open(0, 1));
            y.join(1, 1, 0, 0);
            due("nothing opened has the greatest BUDGET", y.open(5, 1), 27);
            plainIs("nothing opened", y, 5);
        }
    }

    private void promise10Sums() {
        for (int kind = 0; kind < 3; kind++) {
            int t = MODULI[kind];
            RingCipher x = sealed(kind, 100);
            x.set(1, 0, 5);
            x.set(1, 2, t - 1);
            x.seal(1, 1);
            due("a + b has two PARTS", x.join(2, 0, 0, 1), 2);
            due("a - b has two PARTS", x.join(3, 1, 0, 1), 2);
            x.open(2, 2);
            plainIs("a + b", x, 2, 8, 1, t - 1);
            x.open(3, 3);
            plainIs("a - b", x, 3, t - 2, 1, 1);
            for (int k = 0; k < 2; k++) {
                for (int i = 0; i < SIZES[kind]; i++) {
                    long a = x.part(0, k, i);
                    long b = x.part(1, k, i);
                    due("a + b, part by part", x.part(2, k, i), (a + b) % Q);
                    due("a - b, part by part", x.part(3, k, i), (a - b + Q) % Q);
                }
            }
        }
    }

    private void promise10MissingParts() {
        RingCipher x = sealed(0, 3);
        x.join(1, 2, 0, 0);
        due("two and three PARTS: a + b", x.join(2, 0, 0, 1), 3);
        due("two less three PARTS", x.join(3, 1, 0, 1), 3);
        due("three less two PARTS", x.join(4, 1, 1, 0), 3);
        due("three and three PARTS", x.join(5, 0, 1, 1), 3);
        for (int i = 0; i < 8; i++) {
            long third = x.part(1, 2, i);
            due("0 + third", x.part(2, 2, i), third);
            due("0 - third", x.part(3, 2, i), (Q - third) % Q);
            due("third - 0", x.part(4, 2, i), third);
            due("third + third", x.part(5, 2, i), 2 * third % Q);
        }
        // A place that had three PARTS must not lend its old third to a later sum of two.
        x.seal(1, 0);
        x.seal(6, 0);
        x.join(6, 2, 6, 6);
        due("a place's old third PART is gone", x.join(1, 0, 1, 6), 3);
        for (int i = 0; i < 8; i++) {
            due("only the other's third", x.part(1, 2, i), x.part(6, 2, i));
        }
    }

    private void promise10Product() {
        RingCipher x = sealed(0, 21);
        x.set(1, 0, 2);
        x.set(1, 7, 4);
        x.seal(1, 1);
        due("a product has three PARTS", x.join(2, 2, 0, 1), 3);
        x.open(2, 2);
        // (3 + x)(2 + 4 x^7) is 6 + 2 x + 12 x^7 + 4 x^8, and x^8 is -1.
        plainIs("the product opened", x, 2, 2, 2, 0, 0, 0, 0, 0, 12);
        for (int kind = 1; kind < 3; kind++) {
            RingCipher y = new RingCipher();
            y.begin(kind, 8);
            y.keys();
            y.set(0, SIZES[kind] - 1, 1);
            y.set(1, 1, 1);
            y.seal(0, 0);
            y.seal(1, 1);
            y.join(0, 2, 0, 1);
            y.open(2, 0);
            plainIs("x^(N - 1) x", y, 2, MODULI[kind] - 1);
        }
    }

    private void promise10Refusals() {
        RingCipher x = sealed(0, 2);
        x.join(1, 2, 0, 0);
        refused("to -1", NONE, () -> x.join(-1, 0, 0, 0));
        refused("to 16", NONE, () -> x.join(16, 0, 0, 0));
        refused("a empty", NONE, () -> x.join(0, 0, 2, 0));
        refused("b empty", NONE, () -> x.join(0, 0, 0, 2));
        refused("a 16", NONE, () -> x.join(0, 0, 16, 0));
        refused("b -1", NONE, () -> x.join(0, 0, 0, -1));
        refused("empty comes before another op", NONE, () -> x.join(0, 3, 0, 2));
        refused("op -1", ARGUMENT, () -> x.join(0, -1, 0, 0));
        refused("op 3", ARGUMENT, () -> x.join(0, 3, 0, 0));
        refused("another op comes before three PARTS", ARGUMENT, () -> x.join(0, 3, 1, 1));
        refused("a of three PARTS", STATE, () -> x.join(2, 2, 1, 0));
        refused("b of three PARTS", STATE, () -> x.join(2, 2, 0, 1));
        refused("empty comes before three PARTS", NONE, () -> x.join(2, 2, 1, 2));
        due("nothing was written", x.count(6), 2);
    }

    private void promise11Plain() {
        for (int kind = 0; kind < 3; kind++) {
            int n = SIZES[kind];
            int t = MODULI[kind];
            RingCipher x = sealed(kind, 55);
            x.set(1, 0, t - 1);
            x.set(1, n - 1, 2);
            due("added: PARTS", x.plain(1, 0, 0, 1), 2);
            for (int i = 0; i < n; i++) {
                due("added to the first", x.part(1, 0, i), (x.part(0, 0, i) + Q / t * x.get(1, i)) % Q);
                due("the second stays", x.part(1, 1, i), x.part(0, 1, i));
            }
            due("times: PARTS", x.plain(2, 1, 0, 1), 2);
            for (int k = 0; k < 2; k++) {
                long wrapped = (t - 1L) * x.part(0, k, 0) - 2L * x.part(0, k, 1);
                due("each PART times the PLAIN", x.part(2, k, 0), Math.floorMod(wrapped, Q));
            }
            refused("to 16", NONE, () -> x.plain(16, 0, 0, 0));
            refused("a empty", NONE, () -> x.plain(0, 0, 9, 0));
            refused("plain 8", NONE, () -> x.plain(0, 0, 0, 8));
            refused("no such plain comes before another op", NONE, () -> x.plain(0, 2, 0, -1));
            refused("op 2", ARGUMENT, () -> x.plain(0, 2, 0, 0));
            refused("op -1", ARGUMENT, () -> x.plain(0, -1, 0, 0));
        }
        RingCipher y = sealed(0, 56);
        y.set(1, 0, 2);
        y.join(1, 2, 0, 0);
        due("three PARTS added to", y.plain(2, 0, 1, 1), 3);
        due("three PARTS multiplied", y.plain(3, 1, 1, 1), 3);
        due("the third stays", y.part(2, 2, 5), y.part(1, 2, 5));
        due("the third doubled", y.part(3, 2, 5), 2L * y.part(1, 2, 5) % Q);
        y.open(4, 2);
        plainIs("(3 + x)^2 + 2", y, 4, 11, 6, 1);
        y.open(4, 3);
        plainIs("2 (3 + x)^2", y, 4, 1, 12, 2);
    }

    private void promise12Shrink() {
        RingCipher x = sealed(0, 77);
        x.join(1, 2, 0, 0);
        int budget = x.shrink(2, 1);
        due("shrink answers the BUDGET", budget, x.about(2, 1));
        due("two PARTS", x.about(2, 0), 2);
        due("the taken one stays", x.about(1, 0), 3);
        x.open(1, 2);
        plainIs("(3 + x)^2", x, 1, 9, 6, 1);
        refused("two PARTS", STATE, () -> x.shrink(3, 2));
        refused("to -1", NONE, () -> x.shrink(-1, 1));
        refused("to 16 comes before two PARTS", NONE, () -> x.shrink(16, 0));
        refused("a empty", NONE, () -> x.shrink(0, 8));
        refused("a 16", NONE, () -> x.shrink(0, 16));
    }

    private void promise13Turn() {
        for (int kind = 0; kind < 3; kind++) {
            int n = SIZES[kind];
            int t = MODULI[kind];
            RingCipher x = sealed(kind, 9);
            x.set(0, n - 1, 2);
            x.seal(0, 0);
            x.turnKey(3);
            x.turnKey(2 * n - 1);
            due("turn answers the BUDGET", x.turn(1, 0, 3), x.about(1, 1));
            due("two PARTS", x.about(1, 0), 2);
            x.open(1, 1);
            // x^(3 (N - 1)) is x^(2 N) x^(N - 3).
            due("the constant stays", x.get(1, 0), 3);
            due("x becomes x^3", x.get(1, 3), 1);
            due("x^(N - 1) turned by 3", x.get(1, n - 3), 2);
            x.turn(2, 0, 2 * n - 1);
            x.open(2, 2);
            due("x becomes 1 / x", x.get(2, n - 1), t - 1);
            due("x^(N - 1) becomes its inverse", x.get(2, 1), t - 2);
            due("the constant stays", x.get(2, 0), 3);
        }
    }

    private void promise13Refusals() {
        RingCipher x = sealed(0, 9);
        refused("no TURN", STATE, () -> x.turn(1, 0, 3));
        x.turnKey(3);
        int[] missing = {Integer.MIN_VALUE, -3, 0, 1, 2, 5, 19, Integer.MAX_VALUE};
        for (int g : missing) {
            refused("turn by " + g, STATE, () -> x.turn(1, 0, g));
        }
        x.join(2, 2, 0, 0);
        refused("three PARTS", STATE, () -> x.turn(1, 2, 3));
        refused("to 16", NONE, () -> x.turn(16, 0, 3));
        refused("to -1 comes before no TURN", NONE, () -> x.turn(-1, 0, 5));
        refused("a empty comes before no TURN", NONE, () -> x.turn(0, 1, 5));
        due("nothing was written", x.count(6), 2);
    }

    private void promise14Part() {
        RingCipher x = sealed(0, 6);
        for (int k = 0; k < 2; k++) {
            for (int i = 0; i < 8; i++) {
                due("from 0 to Q - 1", x.part(0, k, i) >= 0 && x.part(0, k, i) < Q ? 1 : 0, 1);
            }
        }
        refused("no third PART", NONE, () -> x.part(0, 2, 0));
        refused("PART -1", NONE, () -> x.part(0, -1, 0));
        refused("coefficient N", NONE, () -> x.part(0, 0, 8));
        refused("coefficient -1", NONE, () -> x.part(0, 0, -1));
        refused("cipher -1", NONE, () -> x.part(-1, 0, 0));
        refused("cipher 16", NONE, () -> x.part(16, 0, 0));
        refused("empty", NONE, () -> x.part(1, 0, 0));
        x.join(1, 2, 0, 0);
        due("a third PART", x.part(1, 2, 7) >= 0 ? 1 : 0, 1);
        refused("no fourth PART", NONE, () -> x.part(1, 3, 0));
        x.join(2, 1, 0, 0);
        due("nothing", x.part(2, 1, 7), 0);
        x.set(1, 6, 16);
        x.plain(2, 0, 2, 1);
        due("16 D", x.part(2, 0, 6), 16 * (Q / 17));
        due("beside it", x.part(2, 0, 5), 0);
    }

    private void promise15About() {
        RingCipher x = sealed(0, 14);
        due("PARTS", x.about(0, 0), 2);
        int noise = x.about(0, 2);
        int budget = x.about(0, 1);
        due("2^(k + 1) NOISE is below Q", ((long) noise << (budget + 1)) < Q ? 1 : 0, 1);
        due("2^(k + 2) NOISE is not", ((long) noise << (budget + 2)) >= Q ? 1 : 0, 1);
        x.join(1, 1, 0, 0);
        due("without NOISE", x.about(1, 2), 0);
        due("the greatest BUDGET", x.about(1, 1), 27);
        x.join(2, 2, 0, 0);
        due("three PARTS", x.about(2, 0), 3);
        // A PHASE of D alone: T D is Q less its rest, so the NOISE is that rest.
        x.set(1, 0, 1);
        x.plain(1, 0, 1, 1);
        due("NOISE of D", x.about(1, 2), Q % 17);
        boolean spoilt = false;
        for (int i = 0; i < 28; i++) {
            x.join(0, 0, 0, 0);
            long size = x.about(0, 2);
            due("the NOISE never passes (Q - 1) / 2", size <= (Q - 1) / 2 ? 1 : 0, 1);
            due("the BUDGET of NOISE " + size, x.about(0, 1), budgetFor(size));
            spoilt |= x.about(0, 1) == 0;
        }
        due("it was spoilt on the way", spoilt ? 1 : 0, 1);
        refused("what 3", ARGUMENT, () -> x.about(0, 3));
        refused("what -1", ARGUMENT, () -> x.about(0, -1));
        refused("empty comes before what", NONE, () -> x.about(5, 3));
        refused("cipher 16", NONE, () -> x.about(16, 0));
        refused("cipher -1", NONE, () -> x.about(-1, 0));
    }

    private void promise16Drop() {
        RingCipher x = sealed(0, 14);
        x.join(15, 2, 0, 0);
        due("drop of three PARTS", x.drop(15), 3);
        due("drop of two PARTS", x.drop(0), 2);
        due("drop of an empty one", x.drop(0), 0);
        due("all are empty", x.count(6), 0);
        refused("it is empty", NONE, () -> x.about(0, 0));
        refused("drop(-1)", NONE, () -> x.drop(-1));
        refused("drop(16)", NONE, () -> x.drop(16));
    }

    private void promise17Count() {
        int[] roots = {3, 19, 11};
        for (int kind = 0; kind < 3; kind++) {
            RingCipher x = new RingCipher();
            x.begin(kind, 65_536 * 3 - 1);
            int[] first = {kind, SIZES[kind], MODULI[kind], roots[kind], 0, 0, 0, 2};
            for (int what = 0; what < 8; what++) {
                due("count(" + what + ")", x.count(what), first[what]);
            }
            x.keys();
            due("there are KEYS", x.count(4), 1);
            x.turnKey(3);
            x.turnKey(5);
            due("TURNS", x.count(5), 2);
            x.seal(0, 0);
            x.seal(15, 0);
            x.seal(15, 0);
            due("CIPHERS", x.count(6), 2);
            x.drop(0);
            due("CIPHERS after drop", x.count(6), 1);
            due("count(8)", x.count(8), -1);
            due("count(-1)", x.count(-1), -1);
            due("count of the least int", x.count(Integer.MIN_VALUE), -1);
        }
    }

    /** A target that is also taken ends as it would in a place of its own. */
    private void takenAndWrittenAtOnce() {
        RingCipher apart = sealed(1, 40);
        RingCipher within = sealed(1, 40);
        apart.turnKey(5);
        within.turnKey(5);
        apart.join(1, 2, 0, 0);
        apart.join(2, 1, 1, 0);
        apart.plain(3, 1, 2, 0);
        apart.plain(4, 0, 3, 0);
        apart.shrink(5, 4);
        apart.turn(6, 5, 5);
        within.join(1, 2, 0, 0);
        within.join(1, 1, 1, 0);
        within.plain(1, 1, 1, 0);
        within.plain(1, 0, 1, 0);
        within.shrink(1, 1);
        within.turn(1, 1, 5);
        apart.join(7, 2, 6, 0);
        within.join(0, 2, 1, 0);
        for (int k = 0; k < 3; k++) {
            for (int i = 0; i < 16; i++) {
                due("within a place, part " + k, within.part(0, k, i), apart.part(7, k, i));
            }
        }
    }

    /** Two like objects, one with refused calls between, answer alike afterwards. */
    private void refusalsChangeNothing() {
        RingCipher spared = sealed(0, 60);
        RingCipher pestered = sealed(0, 60);
        spared.turnKey(3);
        pestered.turnKey(3);
        refused("begin", ARGUMENT, () -> pestered.begin(3, 1));
        refused("turnKey", ARGUMENT, () -> pestered.turnKey(4));
        refused("set", NONE, () -> pestered.set(8, 0, 1));
        refused("batch", NONE, () -> pestered.batch(8, true));
        refused("seal", NONE, () -> pestered.seal(0, 8));
        refused("seal", NONE, () -> pestered.seal(16, 0));
        refused("open", NONE, () -> pestered.open(0, 1));
        refused("join", NONE, () -> pestered.join(0, 0, 0, 1));
        refused("join", ARGUMENT, () -> pestered.join(0, 3, 0, 0));
        refused("plain", ARGUMENT, () -> pestered.plain(0, 2, 0, 0));
        refused("shrink", STATE, () -> pestered.shrink(0, 0));
        refused("turn", STATE, () -> pestered.turn(0, 0, 5));
        refused("drop", NONE, () -> pestered.drop(16));
        for (int what = 0; what < 8; what++) {
            due("count(" + what + ") as before", pestered.count(what), spared.count(what));
        }
        due("turn as before", pestered.turn(1, 0, 3), spared.turn(1, 0, 3));
        due("seal as before", pestered.seal(2, 0), spared.seal(2, 0));
        for (int c = 0; c < 3; c++) {
            for (int i = 0; i < 8; i++) {
                due("plain as before", pestered.get(c, i), spared.get(c, i));
                due("part as before", pestered.part(c, 0, i), spared.part(c, 0, i));
            }
        }
    }
}
