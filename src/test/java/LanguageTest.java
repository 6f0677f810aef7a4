import java.io.IOException;
import java.lang.reflect.Array;
import java.lang.reflect.Executable;
import java.lang.reflect.Field;
import java.lang.reflect.Modifier;
import java.nio.file.Files;
import java.nio.file.Path;
import java.util.ArrayList;
import java.util.Arrays;
import java.util.Collections;
import java.util.IdentityHashMap;
import java.util.List;
import java.util.Set;
import java.util.regex.Matcher;
import java.util.regex.Pattern;

/** Those rules of LANGUAGE.md that can be seen in the class's text or in its members; it runs in the project's root. */
public final class LanguageTest {
    private static final Path SOURCE = Path.of("src/main/java/RingCipher.java");
    private static final Set<String> IMPORTS = Set.of("java.util.ArrayList", "java.util.Arrays", "java.util.Iterator",
            "java.util.List", "java.util.NoSuchElementException");
    private static final Set<String> LIBRARY = Set.of("System.arraycopy", "Arrays.copyOf", "Arrays.copyOfRange",
            "Arrays.fill", "Math.abs", "Math.floorDiv", "Math.floorMod", "Math.max", "Math.min", "Integer.bitCount");
    private static final Set<String> EXCEPTIONS = Set.of("IllegalStateException", "IllegalArgumentException",
            "IndexOutOfBoundsException", "ArithmeticException", "UnsupportedOperationException",
            "NoSuchElementException", "RuntimeException");
    private static final Set<Class<?>> STATIC_TYPES = Set.of(int.class, long.class, boolean.class, char.class,
            String.class, int[].class, long[].class, char[].class, byte[].class);
    private static final Set<Class<?>> NUMBERS = Set.of(int.class, long.class, short.class, byte.class, char.class,
            boolean.class);
    private static final int LONGEST_METHOD = 60;
    private static final int MOST_PARAMETERS = 7;
    private static final int MOST_CLASSES = 12;
    private static final int MOST_FIELDS = 20;
    /** Far below the room's 600,000 objects and 7.3 million elements: a run may make many RingCiphers. */
    private static final int MOST_OBJECTS = 300;
    private static final int MOST_ELEMENTS = 10_000;

    private final Expect expect = new Expect();
    private final List<Class<?>> classes = new ArrayList<>();
    private final List<String> lines;
    private final String code;

    private LanguageTest() throws IOException {
        classes.add(RingCipher.class);
        classes.addAll(Arrays.asList(RingCipher.class.getDeclaredClasses()));
        String text = Files.readString(SOURCE);
        code = text.replaceAll("(?s)/\\*.*?\\*/", "").replaceAll("//[^\n]*", "").replaceAll("\"[^\"\n]*\"", "\"\"");
        lines = code.lines().toList();
    }

    public static void main(String[] args) throws IOException {
        LanguageTest test = new LanguageTest();
        test.rule1Face();
        test.rule3Types();
        test.rule4Library();
        test.rule5StaticFields();
        test.rule6Exceptions();
        test.rules2And6And10And13Words();
        test.rule11Sizes();
        test.rule12WhatIsMade();
        test.expect.finish();
    }

    private void holds(String what, boolean so) {
        expect.due(what + " holds (1) or not (0)", so ? 1 : 0, 1);
    }

    private void rule1Face() {
        holds("no package line", !Pattern.compile("(?m)^package\\b").matcher(code).find());
        for (Class<?> inside : classes.subList(1, classes.size())) {
            int modifiers = inside.getModifiers();
            holds(inside + ": static, neither public nor protected",
                    Modifier.isStatic(modifiers) && (modifiers & (Modifier.PUBLIC | Modifier.PROTECTED)) == 0);
            holds(inside + ": has no class inside", inside.getDeclaredClasses().length == 0);
        }
    }

    private void rule3Types() {
        for (Class<?> owner : classes) {
            for (Field field : owner.getDeclaredFields()) {
                Class<?> type = field.getType();
                boolean rowOfNumbers = type.isArray() && NUMBERS.contains(type.getComponentType());
                boolean rowsOfNumbers = type.isArray() && type.getComponentType().isArray()
                        && NUMBERS.contains(type.getComponentType().getComponentType());
                boolean own = classes.contains(type) || type.isArray() && classes.contains(type.getComponentType());
                holds(field + ": of a type that is let", NUMBERS.contains(type) || rowOfNumbers || rowsOfNumbers || own);
            }
        }
    }

    private void rule4Library() {
        Matcher imports = Pattern.compile("(?m)^import ([^;]+);").matcher(code);
        while (imports.find()) {
            holds("import of " + imports.group(1), IMPORTS.contains(imports.group(1)));
        }
        Matcher uses = Pattern.compile("\\b(System|Arrays|Math|Integer|Long|String|List)\\s*\\.\\s*(\\w+)").matcher(code);
        while (uses.find()) {
            if (uses.start() < 5 || !code.startsWith("util.", uses.start() - 5)) {
                holds("use of " + uses.group(), LIBRARY.contains(uses.group(1) + "." + uses.group(2)));
            }
        }
    }

    private void rule5StaticFields() {
        for (Class<?> owner : classes) {
            for (Field field : owner.getDeclaredFields()) {
                if (Modifier.isStatic(field.getModifiers())) {
                    holds(field + ": a final constant",
                            Modifier.isFinal(field.getModifiers()) && STATIC_TYPES.contains(field.getType()));
                }
            }
        }
        holds("no static block", !Pattern.compile("\\bstatic\\s*\\{").matcher(code).find());
    }

    private void rule6Exceptions() {
        Matcher thrown = Pattern.compile("\\bthrow\\b[^;]*;").matcher(code);
        while (thrown.find()) {
            Matcher statement = Pattern.compile("throw new (\\w+)\\((\"\")?\\);").matcher(thrown.group());
            holds(thrown.group(), statement.matches() && EXCEPTIONS.contains(statement.group(1)));
        }
        for (int from = 0; from < lines.size(); from++) {
            if (opensMethod(from) && isConstructor(lines.get(from))) {
                holds("no throw in" + lines.get(from),
                        lines.subList(from, endOf(from)).stream().noneMatch(line -> line.contains("throw")));
            }
        }
    }

    private void rules2And6And10And13Words() {
        List<String> refused = List.of("->", "::", "\\bsynchronized\\b", "\\bassert\\b", "\\bfinally\\b", "\\btry\\b",
                "\\bcatch\\b", "\\bdouble\\b", "\\bfloat\\b", "\\bvar\\b", "\\bObject\\b", "\\bThread\\b", "\\bRandom\\b",
                "\\bhashCode\\b", "\\btoString\\b", "\\bequals\\b", "\\bgetMessage\\b", "\\bnative\\b", "\\bvolatile\\b",
                "java\\.(io|nio|net|time)", "Exact\\b", "\"\" *\\+", "\\+ *\"\"");
        for (String word : refused) {
            holds("without " + word, !Pattern.compile(word).matcher(code).find());
        }
    }

    private void rule11Sizes() {
        holds("at most twelve classes", classes.size() <= MOST_CLASSES);
        for (Class<?> owner : classes) {
            long fields = Arrays.stream(owner.getDeclaredFields())
                    .filter(field -> !Modifier.isStatic(field.getModifiers())).count();
            holds(owner + ": few fields", fields <= MOST_FIELDS);
            List<Executable> methods = new ArrayList<>(Arrays.asList(owner.getDeclaredMethods()));
            methods.addAll(Arrays.asList(owner.getDeclaredConstructors()));
            for (Executable method : methods) {
                holds(method + ": few parameters", method.getParameterCount() <= MOST_PARAMETERS);
            }
        }
        int found = 0;
        for (int from = 0; from < lines.size(); from++) {
            if (opensMethod(from)) {
                holds("short:" + lines.get(from), endOf(from) - from < LONGEST_METHOD);
                found += isConstructor(lines.get(from)) ? 0 : 1;
            }
        }
        int declared = classes.stream().mapToInt(owner -> owner.getDeclaredMethods().length).sum();
        expect.due("methods found in the text", found, declared);
    }

    private boolean opensMethod(int line) {
        return lines.get(line).matches(" {4}( {4})?(public|private) (?!.*\\bclass\\b)[^=;]*\\(.*");
    }

    /** The line that closes what this line opens: it is indented alike. */
    private int endOf(int from) {
        String indent = lines.get(from).replaceAll("\\S.*", "");
        int to = from + 1;
        while (to < lines.size() && !lines.get(to).equals(indent + "}")) {
            to++;
        }
        return to;
    }

    /** The class goes further than the rule: beside exceptions, constructors alone make objects. */
    private void rule12WhatIsMade() {
        for (int from = 0; from < lines.size(); from++) {
            if (opensMethod(from) && !isConstructor(lines.get(from))) {
                for (String line : lines.subList(from, endOf(from))) {
                    holds("makes nothing: " + line.strip(), !line.matches(".*(?<!throw )\\bnew\\b.*"));
                }
            }
        }
        Set<Object> objects = Collections.newSetFromMap(new IdentityHashMap<>());
        long elements = elementsOf(new RingCipher(), objects);
        holds("a RingCipher is " + objects.size() + " objects", objects.size() <= MOST_OBJECTS);
        holds("they have " + elements + " fields and elements", elements <= MOST_ELEMENTS);
    }

    private static boolean isConstructor(String line) {
        return line.matches(" *(public|private) [A-Z]\\w*\\(.*");
    }

    private long elementsOf(Object owner, Set<Object> seen) {
        if (!seen.add(owner)) {
            return 0;
        }
        long elements = 0;
        if (owner.getClass().isArray()) {
            elements += Array.getLength(owner);
            for (int k = 0; owner instanceof Object[] && k < Array.getLength(owner); k++) {
                elements += elementsOf(Array.get(owner, k), seen);
            }
            return elements;
        }
        for (Field field : owner.getClass().getDeclaredFields()) {
            if (!Modifier.isStatic(field.getModifiers())) {
                elements += 1 + (field.getType().isPrimitive() ? 0 : elementsOf(valueOf(field, owner), seen));
            }
        }
        return elements;
    }

    private static Object valueOf(Field field, Object owner) {
        try {
            field.setAccessible(true);
            return field.get(owner);
        } catch (IllegalAccessException e) {
            throw new AssertionError(e);
        }
    }
}
