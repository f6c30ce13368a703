import java.util.function.ToIntFunction;

/** The bounds that section 3 of the document names: the READER, LAWS, acts. A method for each sentence. */
public final class SectionThreeTest {
    private static final Due due = new Due();
    /** Its REST by b has 20 SIGNS and takes 39 places; no REST takes more. */
    private static final String TO_LONGEST = "[(([b].[c])&((a&a)+(b.c)))]";
    private static final String LONGEST = "((([b].[c])&c).[(((b.c)+a)&([b].[c]))])";

    public static void main(String[] args) {
        atFirst();
        theRow();
        theFullRow();
        theLongestRest();
        whateverBecomesOfTheCell();
        openedAnew();
        eachLawOfSingleSigns();
        eachLawOfOneCell();
        eachLawOfFullCells();
        sidesThatAreWide();
        doneAlsoIfNothingIsOther();
        whatIsNoAct();
        due.end();
    }

    /** "at first it is as if opened with NOTHING" */
    private static void atFirst() {
        Letterpeel x = new Letterpeel();
        due.is("word and REST", x.reader(0) + x.reader(1), "-0");
        due.is("LETTERS", x.house(4), 0);
        for (int i = 1; i <= 12; i++) {
            due.is("read " + i, x.read(i % 3), 0);
            due.is("REST " + i, x.reader(1) + x.house(4), "0" + i);
        }
        due.is("read 13", x.read(0), -9);
        due.is("the word", x.reader(0), "bcabcabcabca-");
        Letterpeel y = new Letterpeel();
        due.is("opened with NOTHING", y.open(0), 0);
        due.is("it is as it was", y.reader(0) + y.reader(1), "-0");
    }

    /** "what it was opened with, and the RESTS by the LETTERS read since, one by one" */
    private static void theRow() {
        Letterpeel x = Build.of("(a.(b.(1+[c])))");
        due.is("open", x.open(0), 0);
        String[] rests = {"(a.b.(1+[c]))", "(b.(1+[c]))", "(1+[c])", "[c]", "[c]", "0"};
        String[] words = {"-", "a-", "ab-", "abc-", "abcc-", "abcca-"};
        int[] letters = {0, 1, 2, 2, 0};
        for (int i = 0; i < 6; i++) {
            due.is("REST " + i, x.reader(0) + x.reader(1) + x.house(4), words[i] + rests[i] + i);
            if (i < 5) {
                due.is("read " + i, x.read(letters[i]), i == 0 || i == 4 ? 0 : 1);
            }
        }
        for (int i = 4; i >= 0; i--) {
            due.is("back to " + i, x.back(), i);
            due.is("REST " + i + " again", x.reader(0) + x.reader(1) + x.house(4), words[i] + rests[i] + i);
        }
        due.is("no further back", x.back(), -9);
        due.is("another LETTER", x.read(2), 0);
        due.is("another REST", x.reader(0) + x.reader(1), "c-0");
    }

    /** 12 LETTERS, each behind each; back and forth at the end of the row. */
    private static void theFullRow() {
        Letterpeel x = Build.of("[((a.b)+c)]");
        due.is("open", x.open(0), 1);
        String word = "abcababccabc";
        String plain = "[((a.b)+c)]";
        for (int i = 0; i < 12; i++) {
            int letter = word.charAt(i) - 'a';
            due.is("read", x.read(letter), letter == 0 ? 0 : 1);
            due.is("REST", x.reader(1), letter == 0 ? "(b." + plain + ")" : plain);
        }
        due.is("the word", x.reader(0), word + "-");
        due.is("the 13th", x.read(2), -9);
        due.is("isSound", x.isSound(), true);
        due.is("back", x.back(), 11);
        due.is("the 12th anew", x.read(0), 0);
        due.is("the word anew", x.reader(0), "abcababccaba-");
        due.is("the 13th anew", x.read(0), -9);
        for (int i = 11; i >= 0; i--) {
            due.is("back", x.back(), i);
            boolean open = i > 0 && word.charAt(i - 1) == 'a';
            due.is("REST on the way back", x.reader(1), open ? "(b." + plain + ")" : plain);
        }
    }

    private static void theLongestRest() {
        Letterpeel x = Build.of(TO_LONGEST);
        due.is("open", x.open(0), 1);
        due.is("read", x.read(1), 0);
        due.is("its REST", x.reader(1), LONGEST);
        due.is("restText", x.restText(0, 1, 1), LONGEST);
        due.is("its length", LONGEST.length(), 39);
        due.is("takes", x.takes(0, 2, 5, 0), 1);
        due.is("isSound", x.isSound(), true);
        due.is("read on", x.read(2), 1);
        due.is("back", x.back(), 1);
        due.is("its REST again", x.reader(1), LONGEST);
    }

    /** "(it stays so, whatever becomes of the CELL)" */
    private static void whateverBecomesOfTheCell() {
        stays("sign", x -> x.sign(0, 4));
        stays("or", x -> x.or(0, 1, 0));
        stays("and", x -> x.and(0, 1, 0));
        stays("behind", x -> x.behind(0, 1, 0));
        stays("not", x -> x.not(0, 0));
        stays("again", x -> x.again(0, 0));
        stays("copy", x -> x.copy(1, 0));
        stays("swap", x -> x.swap(0, 1));
        stays("turn", x -> x.turn(0));
        stays("letter", x -> x.letter(0, 3));
        stays("plain", x -> x.plain(0));
        stays("rest", x -> x.rest(0, 0, 0));
    }

    private static void stays(String name, ToIntFunction<Letterpeel> act) {
        Letterpeel x = Build.of("((a.b)+0)", "c");
        x.open(0);
        x.read(0);
        due.is(name, act.applyAsInt(x) >= 0, true);
        due.is("the CELL is another one behind " + name, x.text(0).equals("((a.b)+0)"), false);
        due.is("the REST stays behind " + name, x.reader(0) + x.reader(1), "a-b");
        x.back();
        due.is("what it was opened with stays behind " + name, x.reader(0) + x.reader(1), "-(a.b)");
    }

    /** "no LETTER is read": those of the former word are gone, and the former row. */
    private static void openedAnew() {
        Letterpeel x = Build.of("!0", "(b.a)", "1");
        x.open(0);
        for (int i = 0; i < 12; i++) {
            x.read(0);
        }
        due.is("open with 12 LETTERS", x.open(1), 0);
        due.is("no LETTER", x.reader(0) + x.reader(1) + x.house(4), "-(b.a)0");
        due.is("back", x.back(), -9);
        due.is("read", x.read(1), 0);
        due.is("one LETTER", x.reader(0) + x.reader(1) + x.house(4), "b-a1");
        due.is("back", x.back(), 0);
        due.is("opened with", x.reader(1), "(b.a)");
        due.is("open of EMPTY", x.open(2), 1);
        due.is("open of NOTHING", x.open(3), 0);
    }

    private static void eachLawOfSingleSigns() {
        for (int law = 0; law < 20; law++) {
            Letterpeel x = Build.of("0", "1", "a", "b", "c");
            for (int mixture = 0; mixture < 125; mixture++) {
                int answer = x.law(law, mixture / 25, mixture / 5 % 5, mixture % 5);
                due.is("law " + law + " of " + mixture, answer, 1);
            }
        }
    }

    private static void eachLawOfOneCell() {
        for (String text : new String[] {"0", "1", "b", "!b", "[b]", "(a.b)", "(a+b)", "(a&b)", "!(a.b)"}) {
            Letterpeel x = Build.of(text);
            Model model = new Model();
            model.become(0, text);
            for (int law = 0; law < 20; law++) {
                due.is("law " + law + " of " + text, x.law(law, 0, 0, 0), model.law(law, 0, 0, 0));
            }
        }
    }

    /** Three times 14 SIGNS: the longest side has 62. When PLAIN they have but few. */
    private static void eachLawOfFullCells() {
        String[] full = {
            "[[[[[[[[[[[[[a]]]]]]]]]]]]]", "[[[[[[[[[[[[!b]]]]]]]]]]]]", "[[[[[[[[[[[(a.b)]]]]]]]]]]]",
            "!!!!!!!!!!!!!c", "!!!!!!!!!!!(a.b)", "((((((1.1).1).1).1).1).!b)", "!((((((a+a)+a)+a)+a)+a)+a)"};
        int told = 0;
        for (int mixture = 0; mixture < 343; mixture += 2) {
            String[] row = {full[mixture / 49], full[mixture / 7 % 7], full[mixture % 7]};
            Letterpeel x = Build.of(row);
            Model model = new Model();
            for (int cell = 0; cell < 3; cell++) {
                due.is("signs", x.signs(cell), 14);
                model.become(cell, row[cell]);
            }
            for (int law = 0; law < 20; law++) {
                int answer = model.law(law, 0, 1, 2);
                told += answer == 1 ? 1 : 0;
                due.is("law " + law + " of " + String.join(", ", row), x.law(law, 0, 1, 2), answer);
            }
        }
        due.is("many are not WIDE", told > 500, true);
    }

    private static void law(int law, String x, String y, String z, int answer) {
        Letterpeel object = Build.of(x, y, z);
        due.is("law " + law + " of " + x + ", " + y + ", " + z, object.law(law, 0, 1, 2), answer);
    }

    /** "-9 if one side is WIDE": the left one alone, the right one alone, both. */
    private static void sidesThatAreWide() {
        law(2, "!b", "b", "[!c]", -9);
        law(2, "[!b]", "!a", "c", -9);
        law(2, "[!c]", "a", "1", -9);
        law(3, "(!b.b)", "a", "(b.b)", -9);
        law(3, "[!b]", "!a", "c", -9);
        law(4, "[![(!b+a)]]", "!b", "0", -9);
        law(4, "c", "[!(!a.!c)]", "0", -9);
        law(5, "(!c.[c])", "![!a]", "0", -9);
        law(6, "[![b]]", "b", "!b", -9);
        law(7, "[!a]", "c", "[a]", -9);
        law(8, "[!a]", "[a]", "0", -9);
        law(9, "[!a]", "0", "0", -9);
        law(10, "[!a]", "0", "0", -9);
        law(11, "[!a]", "0", "0", -9);
        law(12, "1", "[!c]", "0", -9);
        law(12, "a", "!a", "0", -9);
        law(13, "1", "[!c]", "0", -9);
        law(13, "a", "!a", "0", -9);
        law(14, "!a", "a", "0", -9);
        law(14, "a", "!1", "0", -9);
        law(15, "!b", "0", "0", -9);
        law(17, "[!a]", "0", "0", -9);
        law(19, "a", "!a", "0", -9);
        law(19, "!1", "c", "0", -9);
        law(0, "[![!c]]", "b", "0", -9);
        law(16, "![!a]", "0", "0", -9);
        law(18, "[!c]", "a", "a", -9);
        law(1, "[![!c]]", "!a", "0", -9);
        law(9, "!a", "0", "0", 1);
        law(17, "!a", "0", "0", 1);
    }

    /** "also if nothing is other then" */
    private static void doneAlsoIfNothingIsOther() {
        Twin same = new Twin(due, () -> {
            Letterpeel x = Build.of("a", "0", "(0+0)");
            x.plain(2);
            x.open(1);
            return x;
        });
        same.does("sign", x -> x.sign(0, 2), 1);
        same.does("copy", x -> x.copy(0, 0), 1);
        same.does("swap", x -> x.swap(0, 0), 0);
        same.does("swap of like TEXTS", x -> x.swap(1, 2), 0);
        same.does("turn", x -> x.turn(0), 0);
        same.does("letter by 0", x -> x.letter(0, 0), 0);
        same.does("letter by 1", x -> x.letter(0, 1), 0);
        same.does("letter of NOTHING", x -> x.letter(1, 3), 0);
        same.does("plain", x -> x.plain(0), 1);
        same.does("rest", x -> x.rest(1, 0, 1), 1);
        same.does("open", x -> x.open(1), 0);
    }

    /** "Acts are the methods from sign() to back(), and no others" */
    private static void whatIsNoAct() {
        Twin twin = new Twin(due, () -> Build.of("(a.b)", "[a]"));
        twin.tells("text", x -> x.text(0), "(a.b)");
        twin.tells("signs", x -> x.signs(0), 3);
        twin.tells("empties", x -> x.empties(0), false);
        twin.tells("takes by RESTS", x -> x.takes(0, 2, 1, 0), 1);
        twin.tells("takes by MEANING", x -> x.takes(0, 2, 1, 1), 1);
        twin.tells("restText", x -> x.restText(0, 1, 0), "b");
        twin.tells("rests", x -> x.rests(0), 4);
        twin.tells("next", x -> x.next(0, 0, 0), 1);
        twin.tells("restAt", x -> x.restAt(0, 1), "b");
        twin.tells("first", x -> x.first(0), "ab-");
        twin.tells("count", x -> x.count(0, 2), 1);
        twin.tells("listed", x -> x.listed(0, 2), 1);
        twin.tells("word", x -> x.word(0, 2, 0), 1);
        twin.tells("same", x -> x.same(0, 1), 0);
        twin.tells("differ", x -> x.differ(0, 1), "-");
        twin.tells("within", x -> x.within(0, 1), 0);
        twin.tells("law", x -> x.law(2, 0, 1, 2), 1);
        twin.tells("reader", x -> x.reader(0), "-");
        twin.tells("house", x -> x.house(5), 1);
        twin.tells("isSound", x -> x.isSound(), true);
        twin.tells("digest", x -> x.digest() == x.digest(), true);
        Letterpeel x = Build.of("(a.b)");
        int acts = x.house(0);
        due.is("knock", x.knock(), 1);
        due.is("knock is none", x.house(0), acts);
        due.is("nor is it REFUSED", x.house(1), 0);
    }
}
