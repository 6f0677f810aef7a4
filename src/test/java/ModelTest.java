import java.util.Random;

/** Runs of mixed calls, right and wrong ones, each answer beside the model's. */
public final class ModelTest {
    private static final int RUNS = 90;
    private static final int CALLS = 512;

    private final Expect expect;
    private final int run;
    private final Random random;
    private final RingCipher ours = new RingCipher();
    private final Model model = new Model();
    private int calls = 0;

    private ModelTest(Expect expect, int run) {
        this.expect = expect;
        this.run = run;
        this.random = new Random(run);
    }

    public static void main(String[] args) {
        Expect expect = new Expect();
        for (int run = 0; run < RUNS && expect.isClean(); run++) {
            new ModelTest(expect, run).play();
        }
        expect.finish();
    }

    private void play() {
        // Some runs stay without begin, or without keys for a while, so that the new object's state is met.
        if (run % 10 != 0) {
            callBegin(run % 3, random.nextInt());
        }
        while (calls < CALLS / 20 && run % 5 == 1) {
            step();
        }
        check("keys()", ours::keys, model::keys);
        while (calls < CALLS && expect.isClean()) {
            step();
        }
    }

    private void check(String what, Expect.Call got, Expect.Call want) {
        calls++;
        expect.same("run " + run + ", call " + calls + ": " + what, got, want);
    }

    private void step() {
        int choice = random.nextInt(100);
        if (choice < 30) {
            read();
        } else if (choice < 45) {
            plainStep();
        } else if (choice < 62) {
            sealedStep();
        } else if (choice < 97) {
            joinStep();
        } else if (choice == 97 && random.nextInt(4) == 0) {
            check("keys()", ours::keys, model::keys);
        } else if (choice == 98 && random.nextInt(8) == 0) {
            callBegin(random.nextInt(5) - 1, random.nextInt());
        } else {
            int c = place();
            check("drop(" + c + ")", () -> ours.drop(c), () -> model.drop(c));
        }
    }

    private void callBegin(int kind, int seed) {
        check("begin(" + kind + ", " + seed + ")", () -> ours.begin(kind, seed), () -> model.begin(kind, seed));
    }

    private void read() {
        int p = row();
        int c = place();
        int i = coefficient();
        int k = random.nextInt(40) == 0 ? random.nextInt(6) - 2 : random.nextInt(3);
        switch (random.nextInt(4)) {
            case 0 -> check("get(" + p + ", " + i + ")", () -> ours.get(p, i), () -> model.get(p, i));
            case 1 -> check("about(" + c + ", " + k + ")", () -> ours.about(c, k), () -> model.about(c, k));
            case 2 -> check("part(" + c + ", " + k + ", " + i + ")", () -> ours.part(c, k, i),
                    () -> model.part(c, k, i));
            default -> {
                int what = random.nextInt(10) - 1;
                check("count(" + what + ")", () -> ours.count(what), () -> model.count(what));
            }
        }
    }

    private void plainStep() {
        int p = row();
        if (random.nextInt(3) == 0) {
            boolean back = random.nextBoolean();
            check("batch(" + p + ", " + back + ")", () -> ours.batch(p, back), () -> model.batch(p, back));
            return;
        }
        int i = coefficient();
        int v = random.nextBoolean() ? random.nextInt() : random.nextInt(400) - 200;
        check("set(" + p + ", " + i + ", " + v + ")", () -> ours.set(p, i, v), () -> model.set(p, i, v));
    }

    private void sealedStep() {
        int p = row();
        int c = place();
        int g = turnNumber();
        int choice = random.nextInt(10);
        if (choice < 6) {
            check("seal(" + c + ", " + p + ")", () -> ours.seal(c, p), () -> model.seal(c, p));
        } else if (choice < 8) {
            check("open(" + p + ", " + c + ")", () -> ours.open(p, c), () -> model.open(p, c));
        } else {
            check("turnKey(" + g + ")", () -> ours.turnKey(g), () -> model.turnKey(g));
        }
    }

    private void joinStep() {
        int to = place();
        int a = place();
        int b = place();
        int p = row();
        int g = turnNumber();
        int op = random.nextInt(30) == 0 ? random.nextInt(6) - 2 : random.nextInt(3);
        switch (random.nextInt(4)) {
            case 0 -> check("join(" + to + ", " + op + ", " + a + ", " + b + ")",
                    () -> ours.join(to, op, a, b), () -> model.join(to, op, a, b));
            case 1 -> check("plain(" + to + ", " + op + ", " + a + ", " + p + ")",
                    () -> ours.plain(to, op, a, p), () -> model.plain(to, op, a, p));
            case 2 -> check("shrink(" + to + ", " + a + ")", () -> ours.shrink(to, a), () -> model.shrink(to, a));
            default -> check("turn(" + to + ", " + a + ", " + g + ")",
                    () -> ours.turn(to, a, g), () -> model.turn(to, a, g));
        }
    }

    private int place() {
        // Few places are used most of the time, so that targets are often taken as well.
        return random.nextInt(40) == 0 ? random.nextInt(20) - 2 : random.nextInt(10) == 0 ? 15 : random.nextInt(5);
    }

    private int row() {
        return random.nextInt(40) == 0 ? random.nextInt(12) - 2 : random.nextInt(8);
    }

    private int coefficient() {
        int n = model.count(1);
        return random.nextInt(40) == 0 ? random.nextInt(n + 4) - 2 : random.nextInt(n);
    }

    private int turnNumber() {
        int n = model.count(1);
        return random.nextInt(3) == 0 ? random.nextInt(2 * n + 4) - 2 : 3 + 2 * random.nextInt(4);
    }
}
