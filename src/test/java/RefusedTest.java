import java.util.function.Supplier;
import java.util.function.ToIntFunction;

/**
 * REFUSED, sentence by sentence: the last that is done and the first that is not; nothing changes then
 * but house() by 1. And -9 or "?" where a method is asked: that is not counted.
 */
public final class RefusedTest {
    private static final Due due = new Due();
    /** 7 SIGNS and 6 SIGNS: with a join between them 14. */
    private static final String SEVEN = "(((a.b).c).a)";
    private static final String SIX = "((a.b)+!c)";
    private static final String FOURTEEN = "!((((((a.b)+c)&1).b)+a).0)";
    /** Its REST has 24 SIGNS by a; by b and then a it is what it was. */
    private static final String HEAVY = "[((([a].[b]).[c]).a)]";
    /** So many SIGNS their RESTS have, by the LETTERS that are told. */
    private static final String TO_14_BY_A = "![![!c]]";
    private static final String TO_15_BY_B = "[(!c.!b)]";
    private static final String TO_20_BY_B = "[([!b].!b)]";
    private static final String TO_21_BY_A = "[(!a.[!c])]";
    private static final String TO_21_BY_CB = "[(!b.c)]";

    public static void main(String[] args) {
        joins("or", x -> x.or(0, 1, 2), x -> x.or(0, 1, 0), x -> x.or(0, 1, 1));
        joins("and", x -> x.and(0, 1, 2), x -> x.and(0, 1, 0), x -> x.and(0, 1, 1));
        joins("behind", x -> x.behind(0, 1, 2), x -> x.behind(0, 1, 0), x -> x.behind(0, 1, 1));
        joinsWithThemselves();
        not();
        again();
        rest();
        actsThatAreNeverRefused();
        readOf12();
        readOf20();
        back();
        moreThanOnce();
        askedIsNotCounted();
        due.end();
    }

    private static Twin of(String... texts) {
        return new Twin(due, () -> Build.of(texts));
    }

    /** "Returns its SIGNS; REFUSED if these would be more than 14." */
    private static void joins(String name, ToIntFunction<Letterpeel> toThird, ToIntFunction<Letterpeel> toFirst,
            ToIntFunction<Letterpeel> toSecond) {
        Twin fourteen = of(SEVEN, SIX, "b");
        fourteen.does(name + " of 7 and 6 SIGNS", toThird, 14);
        fourteen.does(name + " of 7 and 6 SIGNS into the first one", toFirst, 14);
        fourteen.does(name + " of 7 and 6 SIGNS into the second one", toSecond, 14);
        Twin fifteen = of(SEVEN, SEVEN, "b");
        fifteen.refuses(name + " of 7 and 7 SIGNS", toThird);
        fifteen.refuses(name + " of 7 and 7 SIGNS into the first one", toFirst);
        fifteen.refuses(name + " of 7 and 7 SIGNS into the second one", toSecond);
        of(FOURTEEN, "0", "b").refuses(name + " of 14 SIGNS and one", toThird);
        of("0", FOURTEEN, "b").refuses(name + " of one and 14 SIGNS", toThird);
        of(FOURTEEN, FOURTEEN, "b").refuses(name + " of 14 and 14 SIGNS", toThird);
        of("(((((a.b).c).a).b).c)", "0", "b").does(name + " of 11 SIGNS and one", toThird, 13);
        of("(((((!a.b).c).a).b).c)", "0", "b").does(name + " of 12 SIGNS and one", toThird, 14);
        of("((((((a.b).c).a).b).c).a)", "0", "b").refuses(name + " of 13 SIGNS and one", toThird);
    }

    private static void joinsWithThemselves() {
        Twin seven = of("![[!!!a]]");
        seven.refuses("or with itself", x -> x.or(0, 0, 0));
        seven.refuses("and with itself", x -> x.and(0, 0, 0));
        seven.refuses("behind with itself", x -> x.behind(0, 0, 0));
        Twin six = of("[[!!!a]]");
        six.does("or with itself", x -> x.or(0, 0, 0), 13);
        six.does("and with itself", x -> x.and(0, 0, 0), 13);
        six.does("behind with itself", x -> x.behind(0, 0, 0), 13);
    }

    /** "REFUSED if these would be more than 14", of NOT: a NOT of a NOT is not made less. */
    private static void not() {
        Twin thirteen = of("!!!!!!!!!!!!a", "b");
        thirteen.does("not of 13 SIGNS", x -> x.not(0, 1), 14);
        thirteen.does("not of 13 SIGNS into itself", x -> x.not(0, 0), 14);
        Twin fourteen = of("!!!!!!!!!!!!!a", "b");
        fourteen.refuses("not of 14 SIGNS", x -> x.not(0, 1));
        fourteen.refuses("not of 14 SIGNS into itself", x -> x.not(0, 0));
        of(FOURTEEN, "b").refuses("not of a NOT of 14 SIGNS", x -> x.not(0, 1));
    }

    /** "REFUSED if these would be more than 14", of AGAIN: an AGAIN of an AGAIN is not made less. */
    private static void again() {
        Twin thirteen = of("[[[[[[[[[[[[a]]]]]]]]]]]]", "b");
        thirteen.does("again of 13 SIGNS", x -> x.again(0, 1), 14);
        thirteen.does("again of 13 SIGNS into itself", x -> x.again(0, 0), 14);
        Twin fourteen = of("[[[[[[[[[[[[[a]]]]]]]]]]]]]", "b");
        fourteen.refuses("again of 14 SIGNS", x -> x.again(0, 1));
        fourteen.refuses("again of 14 SIGNS into itself", x -> x.again(0, 0));
        of(FOURTEEN, "b").refuses("again of a NOT of 14 SIGNS", x -> x.again(0, 1));
    }

    /** "Returns its SIGNS; REFUSED if these would be more than 14": those of the REST, not those of the CELL. */
    private static void rest() {
        Twin fourteen = of(TO_14_BY_A, "b");
        fourteen.does("rest of 14 SIGNS", x -> x.rest(0, 0, 1), 14);
        fourteen.does("rest of 14 SIGNS into its own CELL", x -> x.rest(0, 0, 0), 14);
        Twin fifteen = of(TO_15_BY_B, "b");
        fifteen.refuses("rest of 15 SIGNS", x -> x.rest(0, 1, 1));
        fifteen.refuses("rest of 15 SIGNS into its own CELL", x -> x.rest(0, 1, 0));
        of(TO_20_BY_B, "b").refuses("rest of 20 SIGNS", x -> x.rest(0, 1, 1));
        of(TO_21_BY_A, "b").refuses("rest of 21 SIGNS", x -> x.rest(0, 0, 1));
        of("((((((a.b).c).a).b).c).!a)", "b").does("rest of what has 14 SIGNS", x -> x.rest(0, 0, 1), 12);
        of("[[[[[[[[[[[[[a]]]]]]]]]]]]]", "b").does("rest of what has 2 SIGNS when PLAIN", x -> x.rest(0, 0, 1), 2);
    }

    /** Where the document names no REFUSED there is none, with 14 SIGNS either. */
    private static void actsThatAreNeverRefused() {
        Twin full = of(FOURTEEN, "b");
        full.does("copy of 14 SIGNS", x -> x.copy(0, 1), 14);
        full.does("copy of 14 SIGNS to itself", x -> x.copy(0, 0), 14);
        full.does("swap of 14 SIGNS", x -> x.swap(0, 1), 1);
        full.does("swap of 14 SIGNS with itself", x -> x.swap(0, 0), 0);
        full.does("turn of 14 SIGNS", x -> x.turn(0), 1);
        full.does("letter of 14 SIGNS", x -> x.letter(0, 3), 1);
        full.does("sign over 14 SIGNS", x -> x.sign(0, 0), 14);
        full.does("plain of 14 SIGNS", x -> x.plain(0), 2);
        full.does("open of 14 SIGNS", x -> x.open(0), 1);
        Twin plain = of("((((((a.b).c).a).b).c).!a)");
        plain.does("plain of 14 SIGNS that stay", x -> x.plain(0), 14);
        plain.does("open of 14 SIGNS that stay", x -> x.open(0), 0);
    }

    private static Letterpeel read(String text, int... letters) {
        Letterpeel x = Build.of(text);
        x.open(0);
        for (int letter : letters) {
            x.read(letter);
        }
        return x;
    }

    private static Twin reading(String text, int... letters) {
        return new Twin(due, () -> read(text, letters));
    }

    /** "REFUSED if it has 12 LETTERS" */
    private static void readOf12() {
        reading("!0", 0, 1, 2, 0, 1, 2, 0, 1, 2, 0, 1).does("the 12th LETTER", x -> x.read(2), 1);
        Twin full = reading("!0", 0, 1, 2, 0, 1, 2, 0, 1, 2, 0, 1, 2);
        full.refuses("a as the 13th LETTER", x -> x.read(0));
        full.refuses("c as the 13th LETTER", x -> x.read(2));
        full.does("back of the 12th", x -> x.back(), 11);
        full.does("open anew with 12 LETTERS", x -> x.open(1), 0);
        new Twin(due, () -> {
            Letterpeel x = new Letterpeel();
            for (int i = 0; i < 12; i++) {
                x.read(i % 3);
            }
            return x;
        }).refuses("the 13th LETTER of a new object", x -> x.read(1));
    }

    /** "or the REST would have more than 20 SIGNS" */
    private static void readOf20() {
        reading(TO_20_BY_B).does("read to 20 SIGNS", x -> x.read(1), 0);
        reading(TO_21_BY_A).refuses("read to 21 SIGNS", x -> x.read(0));
        reading(TO_21_BY_A).does("read of another LETTER", x -> x.read(1), 1);
        reading("[![!c]]", 0).does("read to 20 SIGNS by the second LETTER", x -> x.read(2), 0);
        reading(TO_21_BY_CB, 2).refuses("read to 21 SIGNS by the second LETTER", x -> x.read(1));
        reading(HEAVY, 1, 0, 1, 0, 1, 0, 1, 0, 1, 0, 1).does("the 12th LETTER", x -> x.read(0), 1);
        reading(HEAVY, 1, 0, 1, 0, 1, 0, 1, 0, 1, 0, 1, 0).refuses("read where both hold", x -> x.read(0));
    }

    /** "Returns how many are read then; REFUSED if none is." */
    private static void back() {
        new Twin(due, Letterpeel::new).refuses("back of a new object", x -> x.back());
        reading("(a.b)").refuses("back of one that was opened", x -> x.back());
        reading("(a.b)", 2).does("back of the only LETTER", x -> x.back(), 0);
        reading("(a.b)", 0, 1).does("back of the second LETTER", x -> x.back(), 1);
        Supplier<Letterpeel> emptied = () -> {
            Letterpeel x = read("(a.b)", 0, 1);
            x.back();
            x.back();
            return x;
        };
        new Twin(due, emptied).refuses("back of one that was emptied", x -> x.back());
        Supplier<Letterpeel> anew = () -> {
            Letterpeel x = read("(a.b)", 0, 1);
            x.open(0);
            return x;
        };
        new Twin(due, anew).refuses("back of one that was opened anew", x -> x.back());
    }

    /** "it is counted (house() by 1)": each time. */
    private static void moreThanOnce() {
        Letterpeel x = Build.of(FOURTEEN);
        int acts = x.house(0);
        for (int i = 1; i <= 20; i++) {
            due.is("not of 14 SIGNS", x.not(0, 0), -9);
            due.is("back", x.back(), -9);
            due.is("house(1)", x.house(1), 2 * i);
        }
        due.is("house(0)", x.house(0), acts);
    }

    /** "Where a method that is asked tells -9 or "?", it is not counted." */
    private static void askedIsNotCounted() {
        Twin wide = of(HEAVY, "a");
        wide.tells("takes", x -> x.takes(0, 1, 0, 0), -9);
        wide.tells("restText", x -> x.restText(0, 1, 0), "?");
        wide.tells("rests", x -> x.rests(0), -9);
        wide.tells("next", x -> x.next(0, 0, 0), -9);
        wide.tells("restAt", x -> x.restAt(0, 0), "?");
        wide.tells("first", x -> x.first(0), "?");
        wide.tells("count", x -> x.count(0, 0), -9);
        wide.tells("word", x -> x.word(0, 0, 0), -9);
        wide.tells("same", x -> x.same(0, 1), -9);
        wide.tells("differ", x -> x.differ(1, 0), "?");
        wide.tells("within", x -> x.within(0, 1), -9);
        wide.tells("law", x -> x.law(0, 0, 1, 1), -9);
        wide.tells("house", x -> x.house(1), 0);
    }
}
