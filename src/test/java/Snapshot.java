import java.util.ArrayList;
import java.util.List;

/** What calls show of an object: what is read first, then what its KEYS, TURNS and CHANCE do. It uses the object up. */
final class Snapshot {
    private static final int TURNED = 9;
    private static final int SHRUNK = 10;
    private static final int SEALED = 11;

    private final Desk x;
    private final int n;
    private final List<String> shown = new ArrayList<>();

    private Snapshot(Desk x) {
        this.x = x;
        n = x.count(1);
    }

    static List<String> of(Desk x) {
        Snapshot snapshot = new Snapshot(x);
        snapshot.showCounts();
        snapshot.showPlains();
        snapshot.showCiphers();
        snapshot.showKeys();
        x.keys();
        snapshot.showKeys();
        return snapshot.shown;
    }

    private void show(String what, Expect.Call call) {
        shown.add(what + " is " + Expect.outcome(call));
    }

    private void showCounts() {
        for (int what = 0; what < 8; what++) {
            int asked = what;
            show("count(" + what + ")", () -> x.count(asked));
        }
    }

    private void showPlains() {
        for (int p = 0; p < 8; p++) {
            for (int i : new int[] {0, 1, n - 1}) {
                int row = p;
                show("get(" + p + ", " + i + ")", () -> x.get(row, i));
            }
        }
    }

    private void showCiphers() {
        for (int c = 0; c < 16; c++) {
            int place = c;
            show("about(" + c + ", 0)", () -> x.about(place, 0));
            show("about(" + c + ", 2)", () -> x.about(place, 2));
            for (int k = 0; k < 3; k++) {
                showPart(c, k, 0);
                showPart(c, k, n - 1);
            }
        }
    }

    private void showPart(int c, int k, int i) {
        show("part(" + c + ", " + k + ", " + i + ")", () -> x.part(c, k, i));
    }

    private void showKeys() {
        show("seal", () -> x.seal(SEALED, 0));
        showPart(SEALED, 0, 0);
        showPart(SEALED, 1, 0);
        for (int g : new int[] {3, 5, 7, 9, 2 * n - 1}) {
            show("turn by " + g, () -> x.turn(TURNED, SEALED, g));
            showPart(TURNED, 0, 0);
            showPart(TURNED, 1, 0);
        }
        show("product", () -> x.join(SHRUNK, 2, SEALED, SEALED));
        show("shrink", () -> x.shrink(SHRUNK, SHRUNK));
        showPart(SHRUNK, 0, 0);
        showPart(SHRUNK, 1, 0);
        show("CHANCE", () -> x.count(7));
    }
}
