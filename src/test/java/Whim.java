import java.util.LinkedHashMap;
import java.util.Map;
import java.util.Random;

/** Calls in an order that is not planned: each is drawn by itself, right ones and wrong ones. */
final class Whim {
    /** How often each call is drawn; those that empty all places are rare, so that runs come to much. */
    private static final Map<String, Integer> SHARES = new LinkedHashMap<>();

    static {
        String[] names = {"begin", "keys", "turnKey", "set", "get", "batch", "seal", "open", "join", "plain",
            "shrink", "turn", "part", "about", "drop", "count"};
        int[] shares = {4, 4, 40, 80, 60, 40, 80, 60, 140, 90, 90, 100, 90, 60, 22, 40};
        for (int k = 0; k < names.length; k++) {
            SHARES.put(names[k], shares[k]);
        }
    }

    private final Random random;
    private final Face seen;

    /** What is seen is only read, so that calls which would all be refused are drawn less often. */
    Whim(int run, Face seen) {
        random = new Random(run);
        this.seen = seen;
    }

    /** A number from 0 to below the bound, for what else of a run is not planned. */
    int below(int bound) {
        return random.nextInt(bound);
    }

    /** A number of 32 bits. */
    int any() {
        return random.nextInt();
    }

    Step next() {
        // Without keys little is answered, so a run does not stay there for long.
        String name = seen.count(4) == 0 && below(15) == 0 ? "keys" : drawName();
        return switch (name) {
            case "begin" -> new Step(name, wrongOnceIn(4, below(3)), any());
            case "turnKey" -> new Step(name, turnNumber());
            case "set" -> new Step(name, row(), coefficient(), below(2) == 0 ? any() : below(400) - 200);
            case "get" -> new Step(name, row(), coefficient());
            case "batch" -> new Step(name, row(), below(2));
            case "seal" -> new Step(name, place(), row());
            case "open" -> new Step(name, row(), taken(2 + below(2)));
            case "join" -> new Step(name, place(), wrongOnceIn(25, below(3)), taken(joined()), taken(joined()));
            case "plain" -> new Step(name, place(), wrongOnceIn(20, below(2)), taken(joined()), row());
            case "shrink" -> new Step(name, place(), taken(3));
            case "turn" -> new Step(name, place(), taken(2), turnNumber());
            case "part" -> new Step(name, taken(3), wrongOnceIn(40, below(3)), coefficient());
            case "about" -> new Step(name, taken(2 + below(2)), wrongOnceIn(12, below(3)));
            case "drop" -> new Step(name, wrongOnceIn(10, taken(3)));
            case "count" -> new Step(name, wrongOnceIn(8, below(8)));
            default -> new Step(name);
        };
    }

    private String drawName() {
        int drawn = below(SHARES.values().stream().mapToInt(Integer::intValue).sum());
        for (Map.Entry<String, Integer> share : SHARES.entrySet()) {
            drawn -= share.getValue();
            if (drawn < 0) {
                return share.getKey();
            }
        }
        throw new AssertionError("the shares do not add up");
    }

    private int wrongOnceIn(int times, int right) {
        if (below(times) > 0) {
            return right;
        }
        return below(4) == 0 ? any() : below(21) - 2;
    }

    /** Few places are drawn most of the time, so that targets are often taken as well. */
    private int place() {
        return wrongOnceIn(40, below(10) == 0 ? below(16) : below(6));
    }

    private int joined() {
        return below(3) == 0 ? 3 : 2;
    }

    /** A place that is seldom empty and more often than not has as many PARTS as are liked. */
    private int taken(int likedParts) {
        int drawn = place();
        for (int tries = below(12); tries > 0 && partsAt(drawn) != likedParts; tries--) {
            drawn = place();
        }
        return partsAt(drawn) == 0 && below(4) > 0 ? firstTaken(drawn) : drawn;
    }

    private int firstTaken(int otherwise) {
        for (int c = 0; c < 16; c++) {
            if (partsAt(c) > 0) {
                return c;
            }
        }
        return otherwise;
    }

    private int partsAt(int c) {
        return new Step("about", c, 0).isAnsweredBy(seen) ? seen.about(c, 0) : 0;
    }

    private int row() {
        return wrongOnceIn(30, below(8));
    }

    private int coefficient() {
        int n = seen.count(1);
        return below(40) == 0 ? below(n + 4) - 2 : wrongOnceIn(60, below(n));
    }

    /** Six turns are drawn most of the time: with four of them made, there are others to refuse. */
    private int turnNumber() {
        int n = seen.count(1);
        return below(8) == 0 ? below(2 * n + 4) - 2 : below(6) < 5 ? 3 + 2 * below(5) : 2 * n - 1;
    }
}
