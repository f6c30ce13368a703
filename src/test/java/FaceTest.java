import java.lang.reflect.Constructor;
import java.lang.reflect.Field;
import java.lang.reflect.Method;
import java.lang.reflect.Modifier;
import java.util.Arrays;
import java.util.Set;
import java.util.TreeSet;

/** The public face, and rules 1, 2, 5 and 11 of LANGUAGE.md as they can be seen from outside. */
public final class FaceTest {
    private static final Due due = new Due();
    private static final String CELL = "IndexOutOfBoundsException";
    private static final String BOTH = "IndexOutOfBoundsException, IllegalArgumentException";
    private static final String ARGUMENT = "IllegalArgumentException";
    private static final String[] FACE = {
        "int sign(2) " + BOTH, "int or(3) " + CELL, "int and(3) " + CELL, "int behind(3) " + CELL, "int not(2) " + CELL,
        "int again(2) " + CELL, "int copy(2) " + CELL, "int swap(2) " + CELL, "int turn(1) " + CELL,
        "int letter(2) " + BOTH, "int plain(1) " + CELL, "int rest(3) " + BOTH, "int open(1) " + CELL,
        "int read(1) " + ARGUMENT, "int back(0) ", "String text(1) " + CELL, "int signs(1) " + CELL,
        "boolean empties(1) " + CELL, "int takes(4) " + BOTH, "String restText(3) " + BOTH, "int rests(1) " + CELL,
        "int next(3) " + BOTH, "String restAt(2) " + BOTH, "String first(1) " + CELL, "int count(2) " + BOTH,
        "int listed(2) " + BOTH, "int word(3) " + BOTH, "int same(2) " + CELL, "String differ(2) " + CELL,
        "int within(2) " + CELL, "int law(4) " + BOTH, "String reader(1) " + ARGUMENT, "int house(1) " + ARGUMENT,
        "int knock(0) ", "boolean isSound(0) ", "long digest(0) "};

    public static void main(String[] args) {
        face();
        nothingElse();
        due.end();
    }

    private static void face() {
        Set<String> found = new TreeSet<>();
        for (Method method : Letterpeel.class.getDeclaredMethods()) {
            if (Modifier.isPublic(method.getModifiers())) {
                StringBuilder thrown = new StringBuilder();
                for (Class<?> type : method.getExceptionTypes()) {
                    thrown.append(thrown.isEmpty() ? "" : ", ").append(type.getSimpleName());
                }
                found.add(method.getReturnType().getSimpleName() + " " + method.getName() + "("
                        + method.getParameterCount() + ") " + thrown);
                for (Class<?> type : method.getParameterTypes()) {
                    due.is("parameters of " + method.getName(), type, int.class);
                }
            }
        }
        due.is("the face", found, new TreeSet<>(Arrays.asList(FACE)));
        due.is("the class", Modifier.toString(Letterpeel.class.getModifiers()), "public final");
        due.is("constructors", Letterpeel.class.getDeclaredConstructors().length, 1);
        for (Constructor<?> constructor : Letterpeel.class.getDeclaredConstructors()) {
            due.is("the constructor", constructor.toString(), "public Letterpeel()");
        }
    }

    private static void nothingElse() {
        Set<String> names = new TreeSet<>();
        for (String line : FACE) {
            names.add(line.substring(line.indexOf(' ') + 1, line.indexOf('(')));
        }
        for (Method method : Letterpeel.class.getDeclaredMethods()) {
            int modifiers = method.getModifiers();
            if (!Modifier.isPublic(modifiers)) {
                due.is(method.getName() + " is private", Modifier.isPrivate(modifiers), true);
                due.is(method.getName() + " is named like one of the face", names.contains(method.getName()), false);
            }
        }
        checkFields(Letterpeel.class);
        int classes = 1;
        for (Class<?> inner : Letterpeel.class.getDeclaredClasses()) {
            classes++;
            due.is(inner + " is static", Modifier.isStatic(inner.getModifiers()), true);
            due.is(inner + " is public", Modifier.isPublic(inner.getModifiers()), false);
            checkFields(inner);
            for (Method method : inner.getDeclaredMethods()) {
                due.is(method + " is named like one of the face", names.contains(method.getName()), false);
                due.is(method + " has few parameters", method.getParameterCount() <= 7, true);
            }
        }
        due.is("few classes", classes <= 12, true);
    }

    private static void checkFields(Class<?> type) {
        int fields = 0;
        for (Field field : type.getDeclaredFields()) {
            int modifiers = field.getModifiers();
            due.is(field + " is private", Modifier.isPrivate(modifiers), true);
            if (Modifier.isStatic(modifiers)) {
                due.is(field + " is final", Modifier.isFinal(modifiers), true);
            } else {
                fields++;
            }
        }
        due.is(type + " has few fields", fields <= 20, true);
    }
}
