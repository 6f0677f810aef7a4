import java.util.StringJoiner;

/** One call of the face with its arguments, so that a run can be kept and made again; a boolean is 1 or 0. */
record Step(String name, int... args) {
    String on(Face x) {
        return Expect.outcome(() -> ask(x));
    }

    boolean isAnsweredBy(Face x) {
        return !on(x).endsWith("Exception");
    }

    private int ask(Face x) {
        return switch (name) {
            case "begin" -> x.begin(args[0], args[1]);
            case "keys" -> x.keys();
            case "turnKey" -> x.turnKey(args[0]);
            case "set" -> x.set(args[0], args[1], args[2]);
            case "get" -> x.get(args[0], args[1]);
            case "batch" -> x.batch(args[0], args[1] == 1);
            case "seal" -> x.seal(args[0], args[1]);
            case "open" -> x.open(args[0], args[1]);
            case "join" -> x.join(args[0], args[1], args[2], args[3]);
            case "plain" -> x.plain(args[0], args[1], args[2], args[3]);
            case "shrink" -> x.shrink(args[0], args[1]);
            case "turn" -> x.turn(args[0], args[1], args[2]);
            case "part" -> x.part(args[0], args[1], args[2]);
            case "about" -> x.about(args[0], args[1]);
            case "drop" -> x.drop(args[0]);
            case "count" -> x.count(args[0]);
            default -> throw new AssertionError("no such call: " + name);
        };
    }

    @Override
    public String toString() {
        StringJoiner text = new StringJoiner(", ", name + "(", ")");
        for (int k = 0; k < args.length; k++) {
            text.add(name.equals("batch") && k == 1 ? Boolean.toString(args[k] == 1) : Integer.toString(args[k]));
        }
        return text.toString();
    }
}
