import java.lang.reflect.Constructor;
import java.lang.reflect.Field;
import java.lang.reflect.Method;
import java.lang.reflect.Modifier;
import java.util.ArrayList;
import java.util.List;
import java.util.TreeSet;

/** The class shows the document's face and nothing else. */
public final class FaceTest {
    private static final List<String> FACE = List.of(
            "int about(int, int) throws java.util.NoSuchElementException, java.lang.IllegalArgumentException",
            "int batch(int, boolean) throws java.util.NoSuchElementException",
            "int begin(int, int) throws java.lang.IllegalArgumentException",
            "int count(int)",
            "int drop(int) throws java.util.NoSuchElementException",
            "int get(int, int) throws java.util.NoSuchElementException",
            "int join(int, int, int, int) throws java.util.NoSuchElementException,"
                    + " java.lang.IllegalArgumentException, java.lang.IllegalStateException",
            "int keys()",
            "int open(int, int) throws java.util.NoSuchElementException",
            "int part(int, int, int) throws java.util.NoSuchElementException",
            "int plain(int, int, int, int) throws java.util.NoSuchElementException,"
                    + " java.lang.IllegalArgumentException",
            "int seal(int, int) throws java.util.NoSuchElementException, java.lang.IllegalStateException",
            "int set(int, int, int) throws java.util.NoSuchElementException",
            "int shrink(int, int) throws java.util.NoSuchElementException, java.lang.IllegalStateException",
            "int turn(int, int, int) throws java.util.NoSuchElementException, java.lang.IllegalStateException",
            "int turnKey(int) throws java.lang.IllegalArgumentException, java.lang.IllegalStateException");

    public static void main(String[] args) {
        Expect expect = new Expect();
        int modifiers = RingCipher.class.getModifiers();
        expect.due("public and final", Modifier.isPublic(modifiers) && Modifier.isFinal(modifiers) ? 1 : 0, 1);
        checkConstructors(expect);
        checkFields(expect);
        checkMethods(expect);
        expect.finish();
    }

    private static void checkConstructors(Expect expect) {
        Constructor<?>[] made = RingCipher.class.getDeclaredConstructors();
        expect.due("constructors", made.length, 1);
        expect.due("its parameters", made[0].getParameterCount(), 0);
        expect.due("public constructor", Modifier.isPublic(made[0].getModifiers()) ? 1 : 0, 1);
    }

    private static void checkFields(Expect expect) {
        for (Field field : RingCipher.class.getDeclaredFields()) {
            int modifiers = field.getModifiers();
            expect.due("private " + field.getName(), Modifier.isPrivate(modifiers) ? 1 : 0, 1);
            expect.due("no changing static " + field.getName(),
                    Modifier.isStatic(modifiers) && !Modifier.isFinal(modifiers) ? 1 : 0, 0);
        }
    }

    private static void checkMethods(Expect expect) {
        List<String> shown = new ArrayList<>();
        TreeSet<String> shownNames = new TreeSet<>();
        TreeSet<String> hiddenNames = new TreeSet<>();
        for (Method method : RingCipher.class.getDeclaredMethods()) {
            if (Modifier.isPrivate(method.getModifiers())) {
                hiddenNames.add(method.getName());
            } else {
                shown.add(describe(method));
                shownNames.add(method.getName());
            }
        }
        for (Class<?> inside : RingCipher.class.getDeclaredClasses()) {
            expect.due("static " + inside.getName(), Modifier.isStatic(inside.getModifiers()) ? 1 : 0, 1);
            for (Method method : inside.getDeclaredMethods()) {
                hiddenNames.add(method.getName());
            }
        }
        shown.sort(null);
        expect.due("the shown methods are the face's: " + shown, shown.equals(FACE) ? 1 : 0, 1);
        hiddenNames.retainAll(shownNames);
        expect.due("hidden methods with a name of the face: " + hiddenNames, hiddenNames.size(), 0);
    }

    private static String describe(Method method) {
        StringBuilder text = new StringBuilder();
        text.append(method.getReturnType().getName()).append(' ').append(method.getName()).append('(');
        text.append(joined(method.getParameterTypes())).append(')');
        if (method.getExceptionTypes().length > 0) {
            text.append(" throws ").append(joined(method.getExceptionTypes()));
        }
        return text.toString();
    }

    private static String joined(Class<?>[] types) {
        List<String> names = new ArrayList<>();
        for (Class<?> type : types) {
            names.add(type.getName());
        }
        return String.join(", ", names);
    }
}
