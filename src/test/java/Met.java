import java.util.HashMap;
import java.util.List;
import java.util.Map;

/** What unplanned runs have met, so that a run which comes to nothing does not pass for a test. */
final class Met {
    private static final int OFTEN = 5;
    private static final String MISSING = "NoSuchElementException";
    private static final String ARGUMENT = "IllegalArgumentException";
    private static final String STATE = "IllegalStateException";
    /** Each call of the face with what the document lets it throw. */
    private static final Map<String, List<String>> REFUSALS = Map.ofEntries(
            Map.entry("begin", List.of(ARGUMENT)),
            Map.entry("keys", List.of()),
            Map.entry("turnKey", List.of(ARGUMENT, STATE)),
            Map.entry("set", List.of(MISSING)),
            Map.entry("get", List.of(MISSING)),
            Map.entry("batch", List.of(MISSING)),
            Map.entry("seal", List.of(MISSING, STATE)),
            Map.entry("open", List.of(MISSING)),
            Map.entry("join", List.of(MISSING, ARGUMENT, STATE)),
            Map.entry("plain", List.of(MISSING, ARGUMENT)),
            Map.entry("shrink", List.of(MISSING, STATE)),
            Map.entry("turn", List.of(MISSING, STATE)),
            Map.entry("part", List.of(MISSING)),
            Map.entry("about", List.of(MISSING, ARGUMENT)),
            Map.entry("drop", List.of(MISSING)),
            Map.entry("count", List.of()));
    private static final List<String> WAYS = List.of("aside", "over the left", "over the right", "over both");

    private final Map<String, Integer> times = new HashMap<>();
    private Step step;
    private String call;
    private String parts;

    /** Looks at a call before it is made: afterwards its target may have other PARTS. */
    void look(Step next, Face before) {
        step = next;
        call = "KIND " + before.count(0) + ", " + next.name();
        int[] args = next.args();
        parts = switch (next.name()) {
            case "join" -> partsAt(before, args[2]) + " and " + partsAt(before, args[3]) + " PARTS";
            case "plain" -> partsAt(before, args[2]) + " PARTS";
            case "open" -> partsAt(before, args[1]) + " PARTS";
            case "about" -> partsAt(before, args[0]) + " PARTS";
            default -> "";
        };
    }

    void note(String due) {
        if (due.endsWith("Exception")) {
            add(call + " throws " + due);
            return;
        }
        add(call + " answers");
        int[] args = step.args();
        switch (step.name()) {
            case "turnKey", "drop" -> add(call + " answers " + due);
            case "batch" -> add(call + " " + args[1]);
            case "count" -> add(call + " " + (due.equals("-1") ? "else" : args[0]));
            case "open" -> add(call + " of " + parts);
            case "about" -> add(call + " " + args[1] + " of " + parts);
            case "join" -> addBoth(call + " " + args[1], way(args[0], args[2], args[3]));
            case "plain" -> addBoth(call + " " + args[1], way(args[0], args[2], -1));
            case "shrink", "turn" -> add(call + " " + way(args[0], args[1], -1));
            default -> { }
        }
    }

    void check(Expect expect) {
        for (int kind = 0; kind < 3; kind++) {
            String head = "KIND " + kind + ", ";
            REFUSALS.forEach((name, refusals) -> {
                need(expect, head + name + " answers");
                refusals.forEach(refusal -> need(expect, head + name + " throws " + refusal));
            });
            needNumbers(expect, head);
            needParts(expect, head);
            needWays(expect, head);
        }
    }

    private void needNumbers(Expect expect, String head) {
        List.of("1", "2", "3", "4").forEach(turns -> need(expect, head + "turnKey answers " + turns));
        List.of("0", "2", "3").forEach(had -> need(expect, head + "drop answers " + had));
        List.of("0", "1").forEach(back -> need(expect, head + "batch " + back));
        List.of("0", "1", "2", "3", "4", "5", "6", "7", "else").forEach(what -> need(expect, head + "count " + what));
    }

    private void needParts(Expect expect, String head) {
        need(expect, head + "join 2 of 2 and 2 PARTS");
        for (String one : List.of("2", "3")) {
            need(expect, head + "open of " + one + " PARTS");
            for (int what = 0; what < 3; what++) {
                need(expect, head + "about " + what + " of " + one + " PARTS");
            }
            for (int op = 0; op < 2; op++) {
                need(expect, head + "plain " + op + " of " + one + " PARTS");
                need(expect, head + "join " + op + " of " + one + " and 2 PARTS");
                need(expect, head + "join " + op + " of " + one + " and 3 PARTS");
            }
        }
    }

    private void needWays(Expect expect, String head) {
        for (String way : WAYS) {
            for (int op = 0; op < 3; op++) {
                need(expect, head + "join " + op + " " + way);
            }
        }
        for (String way : WAYS.subList(0, 2)) {
            List.of("plain 0 ", "plain 1 ", "shrink ", "turn ").forEach(name -> need(expect, head + name + way));
        }
    }

    private void need(Expect expect, String what) {
        int met = times.getOrDefault(what, 0);
        expect.due(what + " is met often enough (" + met + " times)", met >= OFTEN ? 1 : 0, 1);
    }

    private void addBoth(String head, String way) {
        add(head + " of " + parts);
        add(head + " " + way);
    }

    private void add(String what) {
        times.merge(what, 1, Integer::sum);
    }

    private static String way(int to, int left, int right) {
        return WAYS.get((to == left ? 1 : 0) + (to == right ? 2 : 0));
    }

    private static String partsAt(Face x, int c) {
        return new Step("about", c, 0).on(x);
    }
}
