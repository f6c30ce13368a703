import java.lang.reflect.Field;
import java.util.function.ToLongFunction;

/** Promises 34 to 37, and that what is asked changes nothing. */
public final class WholeTest {
    private static final Due due = new Due();
    private static final String HEAVY = "[((([a].[b]).[c]).a)]";

    public static void main(String[] args) throws ReflectiveOperationException {
        house();
        everyActCounts();
        knock();
        isSound();
        isSoundLooks();
        isSoundLooksAtWords();
        digest();
        askingChangesNothing();
        exceptionsChangeNothing();
        due.end();
    }

    private static void house() {
        Letterpeel x = new Letterpeel();
        x.sign(0, 2);
        x.again(0, 1);
        x.sign(2, 1);
        x.open(1);
        x.read(0);
        x.read(0);
        x.read(1);
        x.back();
        due.is("acts", x.house(0), 8);
        due.is("refusals", x.house(1), 0);
        due.is("knocks", x.house(2), 0);
        due.is("SIGNS", x.house(3), 7);
        due.is("LETTERS", x.house(4), 2);
        due.is("cells with the empty word", x.house(5), 2);
        x.back();
        x.back();
        x.back();
        x.knock();
        due.is("acts", x.house(0), 10);
        due.is("refusals", x.house(1), 1);
        due.is("knocks", x.house(2), 1);
        due.noArgument("house(6)", () -> x.house(6));
        due.noArgument("house(-1)", () -> x.house(-1));
    }

    private static void everyActCounts() {
        Letterpeel x = new Letterpeel();
        counts("sign", x, y -> y.sign(0, 2));
        counts("or", x, y -> y.or(0, 0, 1));
        counts("and", x, y -> y.and(0, 0, 1));
        counts("behind", x, y -> y.behind(0, 0, 1));
        counts("not", x, y -> y.not(0, 1));
        counts("again", x, y -> y.again(0, 1));
        counts("copy", x, y -> y.copy(0, 0));
        counts("swap", x, y -> y.swap(0, 0));
        counts("turn", x, y -> y.turn(0));
        counts("letter", x, y -> y.letter(0, 0));
        counts("plain", x, y -> y.plain(0));
        counts("rest", x, y -> y.rest(0, 0, 1));
        counts("open", x, y -> y.open(0));
        counts("read", x, y -> y.read(0));
        counts("back", x, y -> y.back());
    }

    private static void counts(String name, Letterpeel x, ToLongFunction<Letterpeel> act) {
        int acts = x.house(0);
        act.applyAsLong(x);
        due.is(name + " is counted", x.house(0), acts + 1);
        due.is(name + " is not refused", x.house(1), 0);
    }

    private static void knock() {
        Letterpeel x = new Letterpeel();
        for (int i = 1; i <= 3; i++) {
            due.is("knock", x.knock(), i);
        }
        due.is("knocks", x.house(2), 3);
        due.is("a knock is no act", x.house(0), 0);
        due.is("another object", new Letterpeel().knock(), 1);
    }

    private static void isSound() {
        String[] texts = {"0", "!(a.[b])", "[(a.!b)]", "(!!a.((1.b)+0))", HEAVY, "![(c+!c)]", "(((![c].!b)+a).c)"};
        for (String text : texts) {
            Letterpeel x = Build.of(text);
            x.open(0);
            x.read(1);
            due.is("isSound with " + text, x.isSound(), true);
        }
        Letterpeel x = Build.of("![(c+!c)]", "!0");
        x.open(0);
        x.read(2);
        x.read(2);
        due.is("isSound with a REST of 20 SIGNS", x.isSound(), true);
        x.open(1);
        for (int i = 0; i < 12; i++) {
            x.read(i % 3);
        }
        due.is("isSound with 12 LETTERS", x.isSound(), true);
    }

    /** No call leads there, so the READER is given a 13th LETTER, and more than 20 SIGNS, by force. */
    private static void isSoundLooks() throws ReflectiveOperationException {
        Letterpeel x = new Letterpeel();
        Object reading = fieldOf(x, "reading");
        Field size = reading.getClass().getDeclaredField("size");
        size.setAccessible(true);
        size.setInt(reading, 13);
        due.is("isSound with 13 LETTERS", x.isSound(), false);
        due.is("digest with 13 LETTERS", x.digest(), digestOf(x, 13, 0));
        size.setInt(reading, 0);
        due.is("isSound with none", x.isSound(), true);
        Letterpeel.Row opened = (Letterpeel.Row) fieldOf(reading, "opened");
        opened.clear();
        for (int i = 0; i < 21; i++) {
            opened.add('!');
        }
        due.is("isSound with 21 SIGNS", x.isSound(), false);
    }

    /** Nor does a call make these unlike: by force the RESTS of another EXPRESSION, or rows with too little room. */
    private static void isSoundLooksAtWords() throws ReflectiveOperationException {
        String[] texts = {"1", "b", "c", "(a.a)", "(c.c)", "((a.b).c)", "((c.c).c)"};
        for (String text : texts) {
            Letterpeel x = Build.of(text);
            x.sign(1, 0);
            x.rests(1);
            Letterpeel.Row begun = (Letterpeel.Row) fieldOf(fieldOf(x, "ones"), "begun");
            begun.clear();
            for (char sign : text.toCharArray()) {
                begun.add(sign);
            }
            // The RESTS are those of NOTHING then; words of more than two LETTERS are not looked at.
            due.is("isSound of " + text + " with other RESTS", x.isSound(), text.length() > 5);
            x.swap(0, 1);
            due.is("isSound of the CELL 0 alone", x.isSound(), true);
        }
        due.is("isSound with too little room for the TURNED one", isSoundWithout("turned", "(a.b)"), false);
        due.is("isSound where none is turned", isSoundWithout("turned", "a"), true);
        due.is("isSound with too little room for the PLAIN one", isSoundWithout("plained", "!a"), false);
        due.is("isSound where the PLAIN one is short", isSoundWithout("plained", "(0.a)"), true);
        Letterpeel x = Build.of("a", "c");
        x.rests(0);
        int[] kinds = (int[]) fieldOf(fieldOf(x, "grove"), "kinds");
        kinds[2] = 'b';
        due.is("isSound where a is b when PLAIN, and its RESTS are right", x.isSound(), false);
        x.copy(1, 0);
        due.is("isSound where c is c", x.isSound(), true);
    }

    private static boolean isSoundWithout(String name, String text) throws ReflectiveOperationException {
        Letterpeel x = Build.of(text);
        Field field = Letterpeel.class.getDeclaredField(name);
        field.setAccessible(true);
        field.set(x, new Letterpeel.Row(1));
        return x.isSound();
    }

    private static Object fieldOf(Object object, String name) throws ReflectiveOperationException {
        Field field = object.getClass().getDeclaredField(name);
        field.setAccessible(true);
        return field.get(object);
    }

    /** The checksum once more, by the words of its promise and by what else is asked. */
    private static long digestOf(Letterpeel x) {
        return digestOf(x, x.house(4), 1);
    }

    private static long digestOf(Letterpeel x, int letters, int sound) {
        long d = 8028;
        for (int i = 0; i < 6; i++) {
            d = d * 31 + x.signs(i);
            for (char sign : x.text(i).toCharArray()) {
                d = d * 31 + sign;
            }
            d = d * 31 + (x.empties(i) ? 1 : 0);
        }
        d = d * 31 + x.rests(0);
        d = d * 31 + x.count(0, 4);
        d = d * 31 + letters;
        d = d * 31 + x.reader(1).length();
        for (int what = 0; what < 6; what++) {
            d = d * 31 + x.house(what);
        }
        return d * 31 + sound;
    }

    private static void digest() {
        Letterpeel x = new Letterpeel();
        // Six cells 1, 48, 0; then 1, 0, 0, 1; then 0, 0, 0, 6, 0, 0; then 1.
        int[] values = {1, 48, 0, 1, 48, 0, 1, 48, 0, 1, 48, 0, 1, 48, 0, 1, 48, 0, 1, 0, 0, 1, 0, 0, 0, 6, 0, 0, 1};
        long d = 8028;
        for (int value : values) {
            d = d * 31 + value;
        }
        due.is("digest of a new one", x.digest(), d);
        due.is("digest once more", x.digest(), d);
        String[][] rows = {{"(([(a+b)].a).b)", "!0"}, {HEAVY, "[(a.b)]"}, {"((a&!b)+(1.0))", "[(c&b)]", "c"}};
        for (String[] row : rows) {
            Letterpeel y = Build.of(row);
            due.is("digest of " + String.join(", ", row), y.digest(), digestOf(y));
            y.open(1);
            y.read(0);
            y.knock();
            y.or(0, 0, 0);
            due.is("digest behind some acts", y.digest(), digestOf(y));
        }
    }

    private static void askingChangesNothing() {
        Letterpeel x = Build.of("(([(a+b)].a).b)", "!(a.[b])", HEAVY, "[(a.b)]");
        x.open(3);
        x.read(0);
        long digest = x.digest();
        String state = state(x);
        for (int i = 0; i < 4; i++) {
            x.text(i);
            x.signs(i);
            x.empties(i);
            x.takes(i, 2, 1, 0);
            x.takes(i, 4, 1, 1);
            x.restText(i, 3, 4);
            x.rests(i);
            x.next(i, 1, 1);
            x.restAt(i, 2);
            x.first(i);
            x.count(i, 12);
            x.listed(i, 3);
            x.word(i, 5, 1);
            x.same(i, 3 - i);
            x.differ(i, 3 - i);
            x.within(i, 3 - i);
            x.law(7 + i, i, 0, 3);
            x.reader(i % 2);
            x.house(i);
            x.isSound();
        }
        due.is("state", state(x), state);
        due.is("digest", x.digest(), digest);
    }

    private static void exceptionsChangeNothing() {
        Letterpeel x = Build.of("(a.b)", "[c]");
        x.open(0);
        x.read(0);
        String state = state(x);
        due.noCell("or", () -> x.or(0, 1, 6));
        due.noCell("copy", () -> x.copy(0, 6));
        due.noCell("swap", () -> x.swap(0, 6));
        due.noCell("open", () -> x.open(6));
        due.noArgument("rest", () -> x.rest(0, 3, 1));
        due.noArgument("letter", () -> x.letter(0, 6));
        due.noArgument("sign", () -> x.sign(0, 5));
        due.noArgument("read", () -> x.read(3));
        due.is("state", state(x), state);
    }

    private static String state(Letterpeel x) {
        StringBuilder state = new StringBuilder();
        for (int i = 0; i < 6; i++) {
            state.append(x.text(i)).append(' ').append(x.house(i)).append(' ');
        }
        return state.append(x.reader(0)).append(x.reader(1)).toString();
    }
}
