import java.util.ArrayList;
import java.util.HashSet;
import java.util.List;
import java.util.Set;

/**
 * Runs of calls in an order that is not planned, each answer held against the model of the document. Three objects
 * of different KINDS are called by turns, so that nothing may be shared among objects. Every other group of runs
 * ends early, and its runs are then made again on new objects until all that calls can read there has been read.
 */
public final class RunsTest {
    private static final int GROUPS = 60;
    private static final int KINDS = 3;
    private static final int CALLS_OF_THE_FACE = 16;

    private final Expect expect = new Expect();
    private final Met met = new Met();
    private final int[] wholeRuns = new int[KINDS];

    /** An object beside its model, with the calls that were made on both. */
    private static final class Run {
        private final String name;
        private final int length;
        private final Desk ours = new Desk();
        private final Model model = new Model();
        private final Whim whim;
        private final List<Step> steps = new ArrayList<>();
        private final List<String> answers = new ArrayList<>();

        private Run(int group, int kind) {
            int number = KINDS * group + kind;
            name = "run " + number;
            whim = new Whim(number, model);
            length = group % 2 == 0 ? Desk.MOST_CALLS : 60 + whim.below(340);
        }

        private boolean wentThroughAllCalls() {
            Set<String> answered = new HashSet<>();
            for (int k = 0; k < steps.size(); k++) {
                if (!answers.get(k).endsWith("Exception")) {
                    answered.add(steps.get(k).name());
                }
            }
            return answered.size() == CALLS_OF_THE_FACE;
        }

        private boolean isOver() {
            return steps.size() == length;
        }
    }

    public static void main(String[] args) {
        RunsTest test = new RunsTest();
        for (int group = 0; group < GROUPS && test.expect.isClean(); group++) {
            test.playGroup(group);
        }
        test.checkWhatWasMet();
        test.expect.finish();
    }

    private void checkWhatWasMet() {
        met.check(expect);
        for (int kind = 0; kind < KINDS; kind++) {
            expect.due("half of the runs that begin in KIND " + kind + " go through all calls of the face ("
                    + wholeRuns[kind] + " do)", wholeRuns[kind] >= GROUPS / 2 ? 1 : 0, 1);
        }
    }

    private void playGroup(int group) {
        List<Run> all = new ArrayList<>();
        for (int kind = 0; kind < KINDS; kind++) {
            all.add(started(group, kind));
        }
        List<Run> going = new ArrayList<>(all);
        while (!going.isEmpty() && expect.isClean()) {
            Run run = going.get(all.get(0).whim.below(going.size()));
            make(run, run.whim.next());
            going.removeIf(Run::isOver);
        }
        for (int kind = 0; kind < KINDS && expect.isClean(); kind++) {
            readOut(all.get(kind));
            wholeRuns[kind] += all.get(kind).wentThroughAllCalls() ? 1 : 0;
        }
    }

    /** One group in four leaves its first object as it was made, without begin. */
    private Run started(int group, int kind) {
        Run run = new Run(group, kind);
        if (kind > 0 || group % 4 > 0) {
            make(run, new Step("begin", kind, run.whim.any()));
        }
        return run;
    }

    private void make(Run run, Step step) {
        met.look(step, run.model);
        String due = step.on(run.model);
        met.note(due);
        run.steps.add(step);
        run.answers.add(due);
        expect.text(run.name + ", call " + run.steps.size() + ": " + step, step.on(run.ours), due);
    }

    /** A run of 512 calls leaves no call to read with; a shorter one is read piece by piece. */
    private void readOut(Run run) {
        List<Step> reads = readsOf(run.model);
        int room = Desk.MOST_CALLS - run.length;
        for (int from = 0; room > 0 && from < reads.size(); from += room) {
            Desk again = new Desk();
            for (int k = 0; k < run.length; k++) {
                expect.text(run.name + " again, call " + (k + 1) + ": " + run.steps.get(k),
                        run.steps.get(k).on(again), run.answers.get(k));
            }
            for (Step read : reads.subList(from, Math.min(from + room, reads.size()))) {
                expect.text(run.name + " at its end: " + read, read.on(again), read.on(run.model));
            }
        }
    }

    private static List<Step> readsOf(Model model) {
        List<Step> reads = new ArrayList<>();
        int n = model.count(1);
        for (int what = -1; what < 9; what++) {
            reads.add(new Step("count", what));
        }
        for (int p = 0; p < 8; p++) {
            for (int i = 0; i < n; i++) {
                reads.add(new Step("get", p, i));
            }
        }
        for (int c = 0; c < 16; c++) {
            for (int k = 0; k < 3; k++) {
                reads.add(new Step("about", c, k));
                // Where there is no such PART, one refusal is enough.
                boolean there = new Step("part", c, k, 0).isAnsweredBy(model);
                for (int i = 0; i < (there ? n : 1); i++) {
                    reads.add(new Step("part", c, k, i));
                }
            }
        }
        return reads;
    }
}
