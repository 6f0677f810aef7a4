import java.io.IOException;
import java.lang.reflect.Method;
import java.lang.reflect.Modifier;
import java.lang.reflect.Parameter;
import java.nio.file.Files;
import java.nio.file.Path;
import java.util.ArrayList;
import java.util.List;
import java.util.TreeSet;
import java.util.regex.Matcher;
import java.util.regex.Pattern;
import java.util.stream.Stream;

/** What README.md says is so; it runs in the project's root. */
public final class ReadmeTest {
    private static final Pattern EXAMPLE_CALL = Pattern.compile("x\\.(\\w+)\\(([^)]*)\\);(.*)");
    private static final Pattern ANSWER = Pattern.compile("answers (-?\\d+)");
    private static final Pattern CALL_IN_TABLE = Pattern.compile("\\| `(\\w+)\\(([^)]*)\\)` \\|[^|]*\\|[^|]*\\|([^|]*)\\|");
    private static final Pattern KIND_IN_TABLE = Pattern.compile("\\| (\\d) \\| (\\d+) \\| (\\d+) \\|");
    private static final Pattern NAME = Pattern.compile("`([A-Z]\\w+)`");

    private final Expect expect = new Expect();
    private final List<String> lines;

    private ReadmeTest() throws IOException {
        lines = Files.readAllLines(Path.of("README.md"));
    }

    public static void main(String[] args) throws IOException {
        ReadmeTest test = new ReadmeTest();
        test.examplesAnswerWhatIsWritten();
        test.kindsAreSo();
        test.callsAreTheFace();
        test.testsAndHelpersAreThere();
        test.expect.finish();
    }

    private void examplesAnswerWhatIsWritten() {
        Desk x = new Desk();
        int answersWritten = 0;
        for (String line : lines) {
            if (line.equals("RingCipher x = new RingCipher();")) {
                x = new Desk();
            }
            Matcher call = EXAMPLE_CALL.matcher(line);
            if (call.matches()) {
                String got = new Step(call.group(1), numbersIn(call.group(2))).on(x);
                expect.due(line + ": is not refused", got.endsWith("Exception") ? 0 : 1, 1);
                Matcher written = ANSWER.matcher(call.group(3));
                if (written.find()) {
                    answersWritten++;
                    expect.text(line, got, written.group(1));
                }
            }
        }
        expect.due("answers are written", answersWritten > 0 ? 1 : 0, 1);
    }

    private static int[] numbersIn(String args) {
        return Stream.of(args.split(", ")).filter(arg -> !arg.isEmpty())
                .mapToInt(arg -> arg.equals("true") ? 1 : arg.equals("false") ? 0 : Integer.parseInt(arg)).toArray();
    }

    private void kindsAreSo() {
        List<String> written = new ArrayList<>();
        List<String> so = new ArrayList<>();
        for (String line : lines) {
            Matcher kind = KIND_IN_TABLE.matcher(line);
            if (kind.matches()) {
                written.add(kind.group(1) + " " + kind.group(2) + " " + kind.group(3));
            }
        }
        Desk x = new Desk();
        for (int kind = 0; kind < 3; kind++) {
            x.begin(kind, 0);
            so.add(x.count(0) + " " + x.count(1) + " " + x.count(2));
        }
        expect.texts("the table of KINDS", written, so);
    }

    private void callsAreTheFace() {
        TreeSet<String> written = new TreeSet<>();
        for (String line : lines) {
            Matcher call = CALL_IN_TABLE.matcher(line);
            if (call.matches()) {
                String types = call.group(2).replaceAll("(int|boolean) \\w+", "$1");
                written.add(call.group(1) + "(" + types + ")" + call.group(3).replace("`", "").stripTrailing());
            }
        }
        TreeSet<String> so = new TreeSet<>();
        for (Method method : RingCipher.class.getDeclaredMethods()) {
            if (Modifier.isPublic(method.getModifiers())) {
                so.add(method.getName() + "(" + typesOf(method) + ")" + refusalsOf(method));
            }
        }
        expect.texts("the table of calls", List.copyOf(written), List.copyOf(so));
    }

    private static String typesOf(Method method) {
        return String.join(", ", Stream.of(method.getParameters()).map(Parameter::getType).map(Class::getName).toList());
    }

    private static String refusalsOf(Method method) {
        List<String> names = Stream.of(method.getExceptionTypes()).map(Class::getSimpleName).toList();
        return names.isEmpty() ? "" : " " + String.join(", ", names);
    }

    private void testsAndHelpersAreThere() throws IOException {
        TreeSet<String> written = new TreeSet<>();
        for (String line : lines.subList(lines.indexOf("## Tests"), lines.size())) {
            Matcher name = NAME.matcher(line);
            while (name.find()) {
                written.add(name.group(1));
            }
        }
        TreeSet<String> there = new TreeSet<>();
        try (Stream<Path> files = Files.list(Path.of("src/test/java"))) {
            files.forEach(file -> there.add(file.getFileName().toString().replace(".java", "")));
        }
        expect.texts("the tests and helpers", List.copyOf(written), List.copyOf(there));
    }
}
