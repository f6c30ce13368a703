import java.lang.reflect.Constructor;
import java.lang.reflect.Field;
import java.lang.reflect.Method;
import java.lang.reflect.Modifier;
import java.nio.file.Files;
import java.nio.file.Path;
import java.util.Arrays;
import java.util.Set;
import java.util.TreeSet;
import java.util.regex.Matcher;
import java.util.regex.Pattern;

/** The public face, and those rules of LANGUAGE.md that can be seen from outside or in the plain text. */
public final class FaceTest {
    private static final Due due = new Due();
    private static final String CELL = "IndexOutOfBoundsException";
    private static final String BOTH = "IndexOutOfBoundsException, IllegalArgumentException";
    private static final String ARGUMENT = "IllegalArgumentException";
    private static final String[] FACE = {
        "int sign(2) " + BOTH, "int or(3) " + CELL, "int and(3) " + CELL, "int behind(3) " + CELL, "int not(2) " + CELL,
        "int again(2) " + CELL, "int copy(2) " + CELL, "int swap(2) " + CELL, "int turn(1) " + CELL,
        "int letter(2) " + BOTH, "int plain(1) " + CELL, "int rest(3) " + BOTH, "int open(1) " + CELL,
        "int read(1) " + ARGUMENT, "int back(0) ", "String text(1) " + CELL, "int signs(1) " + CELL,
        "boolean empties(1) " + CELL, "int takes(4) " + BOTH, "String restText(3) " + BOTH, "int rests(1) " + CELL,
        "int next(3) " + BOTH, "String restAt(2) " + BOTH, "String first(1) " + CELL, "int count(2) " + BOTH,
        "int listed(2) " + BOTH, "int word(3) " + BOTH, "int same(2) " + CELL, "String differ(2) " + CELL,
        "int within(2) " + CELL, "int law(4) " + BOTH, "String reader(1) " + ARGUMENT, "int house(1) " + ARGUMENT,
        "int knock(0) ", "boolean isSound(0) ", "long digest(0) "};

    public static void main(String[] args) throws Exception {
        face();
        nothingElse();
        language(Files.readString(Path.of(args[0])));
        due.end();
    }

    private static void face() {
        Set<String> found = new TreeSet<>();
        for (Method method : Letterpeel.class.getDeclaredMethods()) {
            if (Modifier.isPublic(method.getModifiers())) {
                StringBuilder thrown = new StringBuilder();
                for (Class<?> type : method.getExceptionTypes()) {
                    thrown.append(thrown.isEmpty() ? "" : ", ").append(type.getSimpleName());
                }
                found.add(method.getReturnType().getSimpleName() + " " + method.getName() + "("
                        + method.getParameterCount() + ") " + thrown);
                for (Class<?> type : method.getParameterTypes()) {
                    due.is("parameters of " + method.getName(), type, int.class);
                }
            }
        }
        due.is("the face", found, new TreeSet<>(Arrays.asList(FACE)));
        due.is("the class", Modifier.toString(Letterpeel.class.getModifiers()), "public final");
        due.is("constructors", Letterpeel.class.getDeclaredConstructors().length, 1);
        for (Constructor<?> constructor : Letterpeel.class.getDeclaredConstructors()) {
            due.is("the constructor", constructor.toString(), "public Letterpeel()");
        }
    }

    private static void nothingElse() {
        Set<String> names = new TreeSet<>();
        for (String line : FACE) {
            names.add(line.substring(line.indexOf(' ') + 1, line.indexOf('(')));
        }
        for (Method method : Letterpeel.class.getDeclaredMethods()) {
            int modifiers = method.getModifiers();
            if (!Modifier.isPublic(modifiers)) {
                due.is(method.getName() + " is private", Modifier.isPrivate(modifiers), true);
                due.is(method.getName() + " is named like one of the face", names.contains(method.getName()), false);
            }
        }
        checkFields(Letterpeel.class);
        int classes = 1;
        for (Class<?> inner : Letterpeel.class.getDeclaredClasses()) {
            classes++;
            due.is(inner + " is static", Modifier.isStatic(inner.getModifiers()), true);
            due.is(inner + " is public", Modifier.isPublic(inner.getModifiers()), false);
            checkFields(inner);
            for (Method method : inner.getDeclaredMethods()) {
                due.is(method + " is named like one of the face", names.contains(method.getName()), false);
                due.is(method + " has few parameters", method.getParameterCount() <= 7, true);
            }
        }
        due.is("few classes", classes <= 12, true);
    }

    private static void checkFields(Class<?> type) {
        int fields = 0;
        for (Field field : type.getDeclaredFields()) {
            int modifiers = field.getModifiers();
            due.is(field + " is private", Modifier.isPrivate(modifiers), true);
            if (Modifier.isStatic(modifiers)) {
                due.is(field + " is final", Modifier.isFinal(modifiers), true);
            } else {
                fields++;
            }
        }
        due.is(type + " has few fields", fields <= 20, true);
    }

    private static void language(String source) {
        String code = source.replaceAll("(?s)/\\*.*?\\*/", " ").replaceAll("//[^\n]*", " ");
        String[] ruledOut = {"import ", "package ", "->", "::", "try", "catch", "finally", "synchronized", "assert",
            "System.out", "System.exit", "Exact(", "instanceof", "Random", "Thread", "static {", "@"};
        String bare = code.replaceAll("\"[^\"\n]*\"", "\"\"");
        for (String word : ruledOut) {
            due.is("the source has " + word, bare.contains(word), false);
        }
        due.is("texts are joined by +", Pattern.compile("\"\"\\s*\\+|\\+\\s*\"\"").matcher(bare).find(), false);
        Matcher thrown = Pattern.compile("throw\\s+(.*?)\\(").matcher(bare);
        while (thrown.find()) {
            due.is("thrown", thrown.group(1).matches("new (IndexOutOfBounds|IllegalArgument)Exception"), true);
        }
        methodsAreShort(code);
    }

    private static void methodsAreShort(String code) {
        int lines = 0;
        boolean inside = false;
        for (String line : code.split("\n")) {
            boolean head = line.matches(" {4}(?: {4})?(?:public |private |static |final )*[\\w\\[\\]]+ ?\\w*\\(.*\\{");
            if (head && !line.contains(" class ")) {
                inside = true;
                lines = 0;
            }
            lines++;
            if (inside && line.matches(" {4}(?: {4})?\\}")) {
                due.is("a method of " + lines + " lines", lines <= 60, true);
                inside = false;
            }
        }
    }
}
