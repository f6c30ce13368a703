import java.lang.reflect.InvocationTargetException;
import java.lang.reflect.Method;
import java.util.ArrayList;
import java.util.Arrays;
import java.util.LinkedHashSet;
import java.util.List;
import java.util.Set;
import java.util.function.Supplier;

/**
 * What throws: every method with each parameter at the last value that is allowed and the first that is
 * not, on both sides, and far outside, in every mixture. The exception that is named first is thrown, it
 * goes ahead of REFUSED, and it changes nothing and counts nothing.
 */
public final class ThrowsTest {
    private static final Due due = new Due();
    private static final Class<?> CELL = IndexOutOfBoundsException.class;
    private static final Class<?> ARGUMENT = IllegalArgumentException.class;
    private static final int MOST = Integer.MAX_VALUE;
    private static final int LEAST = Integer.MIN_VALUE;

    /** The name, then for each parameter "cell" or the least and the greatest value that is allowed. */
    private static final String[] FACE = {
        "sign cell 0:4", "or cell cell cell", "and cell cell cell", "behind cell cell cell", "not cell cell",
        "again cell cell", "copy cell cell", "swap cell cell", "turn cell", "letter cell 0:5", "plain cell",
        "rest cell 0:2 cell", "open cell", "read 0:2", "back", "text cell", "signs cell", "empties cell",
        "rests cell",
        "next cell 0:9 0:2", "restAt cell 0:9", "first cell", "count cell 0:12", "listed cell 0:3",
        "word cell 0:12 0:2147483647", "same cell cell", "differ cell cell", "within cell cell",
        "law 0:19 cell cell cell", "reader 0:1", "house 0:5", "knock", "isSound", "digest"};

    public static void main(String[] args) throws ReflectiveOperationException {
        List<Supplier<Letterpeel>> states = List.of(Letterpeel::new, ThrowsTest::ordinary, ThrowsTest::full);
        for (Supplier<Letterpeel> make : states) {
            String before = State.of(make.get());
            long digest = make.get().digest();
            for (String line : FACE) {
                mixtures(line, make, before, digest);
            }
            words(make, before, digest);
        }
        due.end();
    }

    private static Letterpeel ordinary() {
        Letterpeel x = Build.of("(a.b)", "[c]", "!a", "1", "0", "!!b");
        x.open(1);
        x.back();
        x.read(2);
        x.knock();
        return x;
    }

    /** Each cell has 14 SIGNS and is WIDE, and the READER has 12 LETTERS: what can be REFUSED is. */
    private static Letterpeel full() {
        Letterpeel x = Build.of("[a]");
        x.open(0);
        for (int i = 0; i < 12; i++) {
            x.read(0);
        }
        Build.put(x, 0, "!!![((([a].[b]).[c]).a)]");
        for (int i = 1; i < 6; i++) {
            x.copy(0, i);
        }
        return x;
    }

    private static void mixtures(String line, Supplier<Letterpeel> make, String before, long digest)
            throws ReflectiveOperationException {
        String[] words = line.split(" ");
        int[][] values = new int[words.length - 1][];
        int many = 1;
        for (int i = 0; i < values.length; i++) {
            values[i] = valuesOf(words[i + 1]);
            many *= values[i].length;
        }
        for (int mixture = 0; mixture < many; mixture++) {
            int[] arguments = new int[values.length];
            int left = mixture;
            Class<?> thrown = null;
            for (int i = 0; i < values.length; i++) {
                arguments[i] = values[i][left % values[i].length];
                left /= values[i].length;
                thrown = theFirstNamed(thrown, words[i + 1], arguments[i]);
            }
            check(words[0], arguments, thrown, make, before, digest);
        }
    }

    private static int[] valuesOf(String parameter) {
        int least = leastOf(parameter);
        int most = mostOf(parameter);
        Set<Integer> values = new LinkedHashSet<>(Arrays.asList(least, most, least - 1, most + 1, LEAST, MOST));
        return values.stream().mapToInt(value -> value).toArray();
    }

    private static int leastOf(String parameter) {
        return parameter.equals("cell") ? 0 : Integer.parseInt(parameter.split(":")[0]);
    }

    private static int mostOf(String parameter) {
        return parameter.equals("cell") ? 5 : Integer.parseInt(parameter.split(":")[1]);
    }

    /** No method names IllegalArgumentException ahead of IndexOutOfBoundsException. */
    private static Class<?> theFirstNamed(Class<?> thrown, String parameter, int value) {
        if (value >= leastOf(parameter) && value <= mostOf(parameter)) {
            return thrown;
        }
        return parameter.equals("cell") || thrown == CELL ? CELL : ARGUMENT;
    }

    /** takes and restText, where the bound of n hangs on the LENGTH, and that of the LENGTH on how. */
    private static void words(Supplier<Letterpeel> make, String before, long digest)
            throws ReflectiveOperationException {
        for (int cell : new int[] {LEAST, -1, 0, 5, 6, MOST}) {
            for (int length : new int[] {LEAST, -1, 0, 1, 2, 3, 4, 5, 6, 7, MOST}) {
                int words = (int) Math.pow(3, Math.max(0, Math.min(length, 7)));
                for (int n : new int[] {LEAST, -1, 0, words - 1, words, MOST}) {
                    boolean isWord = length >= 0 && n >= 0 && n < words;
                    Class<?> thrown = cell < 0 || cell > 5 ? CELL : isWord && length <= 6 ? null : ARGUMENT;
                    check("restText", new int[] {cell, length, n}, thrown, make, before, digest);
                    check("takes", new int[] {cell, length, n, 0}, thrown, make, before, digest);
                    Class<?> byMeaning = thrown == null && length > 4 ? ARGUMENT : thrown;
                    check("takes", new int[] {cell, length, n, 1}, byMeaning, make, before, digest);
                    Class<?> byNone = thrown == CELL ? CELL : ARGUMENT;
                    for (int how : new int[] {LEAST, -1, 2, MOST}) {
                        check("takes", new int[] {cell, length, n, how}, byNone, make, before, digest);
                    }
                }
            }
        }
    }

    private static void check(String name, int[] arguments, Class<?> thrown, Supplier<Letterpeel> make, String before,
            long digest) throws ReflectiveOperationException {
        Letterpeel x = make.get();
        String call = name + Arrays.toString(arguments);
        due.is(call + " throws", thrownBy(x, name, arguments), thrown);
        if (thrown != null) {
            due.is(call + ": digest", x.digest(), digest);
            due.is(call + ": all", State.of(x), before);
        }
    }

    private static Class<?> thrownBy(Letterpeel x, String name, int[] arguments) throws ReflectiveOperationException {
        Class<?>[] types = new Class<?>[arguments.length];
        List<Object> values = new ArrayList<>();
        Arrays.fill(types, int.class);
        for (int argument : arguments) {
            values.add(argument);
        }
        Method method = Letterpeel.class.getMethod(name, types);
        try {
            method.invoke(x, values.toArray());
            return null;
        } catch (InvocationTargetException e) {
            return e.getCause().getClass();
        }
    }
}
