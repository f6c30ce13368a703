/** Promises 17 to 28: what is asked of one expression. */
public final class AskOneTest {
    private static final Due due = new Due();
    /** By a its REST has 24 SIGNS, by b 19. */
    private static final String HEAVY = "[((([a].[b]).[c]).a)]";
    /** It would have 11 RESTS. */
    private static final String ELEVEN = "(((![c].!b)+a).c)";
    private static final String TEN = "((!(a.!b).!c).b)";
    private static final String ENDS_AB = "(([(a+b)].a).b)";

    public static void main(String[] args) {
        textAndSigns();
        empties();
        takes();
        takesByBoth();
        restText();
        rests();
        asksAnew();
        first();
        count();
        listed();
        word();
        due.end();
    }

    private static void textAndSigns() {
        String[] texts = {"0", "1", "a", "!b", "[c]", "(a+b)", "(a&b)", "(a.b)", "((a+b)+c)", "![(!a.[0])]"};
        int[] signs = {1, 1, 1, 2, 2, 3, 3, 3, 5, 7};
        for (int i = 0; i < texts.length; i++) {
            Letterpeel x = Build.of(texts[i]);
            due.is("text", x.text(0), texts[i]);
            due.is("signs of " + texts[i], x.signs(0), signs[i]);
        }
        Letterpeel x = Build.of("((a+b)+c)", "((a.b).c)");
        x.plain(0);
        x.plain(1);
        due.is("text of three PARTS", x.text(0) + x.text(1), "(a+b+c)(a.b.c)");
        due.is("signs of three PARTS", x.signs(0) + x.signs(1), 10);
        due.noCell("text(-1)", () -> x.text(-1));
        due.noCell("text(6)", () -> x.text(6));
        due.noCell("signs(-1)", () -> x.signs(-1));
        due.noCell("signs(6)", () -> x.signs(6));
    }

    private static void empties() {
        String[] taking = {"1", "!0", "!a", "[a]", "[0]", "(a+1)", "(1&[a])", "([a].[b])", "!(a.1)"};
        String[] others = {"0", "a", "!1", "![a]", "(a+b)", "(1&a)", "([a].b)", "(1.a)"};
        for (String text : taking) {
            due.is("empties of " + text, Build.of(text).empties(0), true);
        }
        for (String text : others) {
            due.is("empties of " + text, Build.of(text).empties(0), false);
        }
        Letterpeel x = new Letterpeel();
        due.noCell("empties(6)", () -> x.empties(6));
        due.noCell("empties(-1)", () -> x.empties(-1));
    }

    private static void takes() {
        Letterpeel x = Build.of(ENDS_AB, HEAVY);
        for (int how = 0; how < 2; how++) {
            due.is("takes ab", x.takes(0, 2, 1, how), 1);
            due.is("takes ba", x.takes(0, 2, 3, how), 0);
            due.is("takes aaab", x.takes(0, 4, 1, how), 1);
            due.is("takes cab", x.takes(0, 3, 19, how), 0);
            due.is("takes the empty word", x.takes(0, 0, 0, how), 0);
        }
        due.is("takes bbbbab", x.takes(0, 6, 361, 0), 1);
        due.is("takes aaaaab", x.takes(0, 6, 1, 0), 1);
        due.is("takes cccccc", x.takes(0, 6, 728, 0), 0);
        due.is("too many SIGNS behind a", x.takes(1, 1, 0, 0), -9);
        due.is("too many SIGNS on the way", x.takes(1, 2, 1, 0), -9);
        due.is("by MEANING none are too many", x.takes(1, 1, 0, 1), 1);
        due.is("b", x.takes(1, 1, 1, 0), 0);
        due.is("ba", x.takes(1, 2, 3, 0), 1);
        due.is("baa", x.takes(1, 3, 9, 0), -9);
        due.is("the empty word", x.takes(1, 0, 0, 0), 1);
        int refused = x.house(1);
        due.is("what is asked counts nothing", refused, 0);
        due.noCell("takes(6, 9, -1, 7)", () -> x.takes(6, 9, -1, 7));
        due.noCell("takes(-1, 0, 0, 0)", () -> x.takes(-1, 0, 0, 0));
        due.noArgument("how 2", () -> x.takes(0, 0, 0, 2));
        due.noArgument("how -1", () -> x.takes(0, 0, 0, -1));
        due.noArgument("length -1", () -> x.takes(0, -1, 0, 0));
        due.noArgument("length -1 by MEANING", () -> x.takes(0, -1, 0, 1));
        due.noArgument("length 7", () -> x.takes(0, 7, 0, 0));
        due.noArgument("length 5 by MEANING", () -> x.takes(0, 5, 0, 1));
        due.noArgument("length of all", () -> x.takes(0, Integer.MAX_VALUE, 0, 0));
        due.noArgument("n -1", () -> x.takes(0, 2, -1, 0));
        due.noArgument("n 9", () -> x.takes(0, 2, 9, 0));
        due.noArgument("n 1 of the empty word", () -> x.takes(0, 0, 1, 1));
        due.noArgument("n 729", () -> x.takes(0, 6, 729, 0));
        due.noArgument("n 81 by MEANING", () -> x.takes(0, 4, 81, 1));
        due.is("n 80 by MEANING", x.takes(0, 4, 80, 1), 0);
    }

    private static void takesByBoth() {
        String[] texts = {"!(a.[b])", "([(a.b)]&![a])", "[(a.!b)]", "((a+1).([b].!1))", "[[(a+(b.c))]]", "!(!0.(a.!0))"};
        for (String text : texts) {
            Letterpeel x = Build.of(text);
            Model.Tree tree = Model.Tree.of(text);
            for (int length = 0, words = 1; length <= 4; length++, words *= 3) {
                for (int n = 0; n < words; n++) {
                    int taken = tree.takes(Model.wordOf(length, n)) ? 1 : 0;
                    due.is(text + " by MEANING " + length + " " + n, x.takes(0, length, n, 1), taken);
                    due.is(text + " by RESTS " + length + " " + n, x.takes(0, length, n, 0), taken);
                }
            }
        }
    }

    private static void restText() {
        Letterpeel x = Build.of(ENDS_AB, HEAVY, "((b+a)+0)");
        due.is("behind the empty word", x.restText(2, 0, 0), "(a+b)");
        due.is("behind a", x.restText(0, 1, 0), "(([(a+b)].a.b)+b)");
        due.is("behind ab", x.restText(0, 2, 1), "(([(a+b)].a.b)+1)");
        due.is("behind abab", x.restText(0, 4, 10), "(([(a+b)].a.b)+1)");
        due.is("behind ca", x.restText(0, 2, 6), "0");
        due.is("behind a, too many SIGNS", x.restText(1, 1, 0), "?");
        due.is("behind ab, too many on the way", x.restText(1, 2, 1), "?");
        due.is("behind b, 19 SIGNS", x.restText(1, 1, 1), "([b].[c].a.[([a].[b].[c].a)])");
        due.is("20 SIGNS", Build.of("![(c+!c)]").restText(0, 2, 8), "!((!0.[(!c+c)])+((!1+1).[(!c+c)]))");
        due.is("behind aaaaaa", x.restText(0, 6, 0), "(([(a+b)].a.b)+b)");
        due.noCell("restText(6, 7, 0)", () -> x.restText(6, 7, 0));
        due.noCell("restText(-1, 0, 0)", () -> x.restText(-1, 0, 0));
        due.noArgument("length 7", () -> x.restText(0, 7, 0));
        due.noArgument("length -1", () -> x.restText(0, -1, 0));
        due.noArgument("n 729", () -> x.restText(0, 6, 729));
        due.noArgument("n -1", () -> x.restText(0, 1, -1));
        due.noArgument("n 1 of the empty word", () -> x.restText(0, 0, 1));
    }

    private static void rests() {
        String[] texts = {"0", "!!0", "1", "a", "[!a]", "(b.[!a])", ENDS_AB, TEN};
        int[] many = {1, 1, 2, 3, 4, 6, 4, 10};
        for (int i = 0; i < texts.length; i++) {
            due.is("rests of " + texts[i], Build.of(texts[i]).rests(0), many[i]);
        }
        for (String text : new String[] {ELEVEN, HEAVY}) {
            Letterpeel x = Build.of(text);
            due.is("rests of a WIDE one", x.rests(0), -9);
            due.is("next of a WIDE one", x.next(0, 0, 0), -9);
            due.is("next of a WIDE one, 9", x.next(0, 9, 2), -9);
            due.is("restAt of a WIDE one", x.restAt(0, 0), "?");
            due.is("restAt of a WIDE one, 9", x.restAt(0, 9), "?");
        }
        Letterpeel x = Build.of(ENDS_AB, TEN, "![(c+!c)]");
        String[] rests = {"([(a+b)].a.b)", "(([(a+b)].a.b)+b)", "0", "(([(a+b)].a.b)+1)", "", "", "", "", "", ""};
        int[] nexts = {1, 0, 2, 1, 3, 2, 2, 2, 2, 1, 0, 2};
        for (int k = 0; k < 10; k++) {
            due.is("restAt " + k, x.restAt(0, k), rests[k]);
            for (int letter = 0; letter < 3; letter++) {
                due.is("next " + k + " by " + letter, x.next(0, k, letter), k < 4 ? nexts[3 * k + letter] : -1);
            }
        }
        due.is("the tenth", x.restAt(1, 9), "((!0.b)+(!1.b))");
        due.is("next of the tenth", x.next(1, 9, 1), 8);
        due.is("one of 20 SIGNS is not WIDE", x.rests(2), 4);
        due.noCell("rests(6)", () -> x.rests(6));
        due.noCell("rests(-1)", () -> x.rests(-1));
        due.noCell("next(6, 10, 3)", () -> x.next(6, 10, 3));
        due.noArgument("next(0, 10, 0)", () -> x.next(0, 10, 0));
        due.noArgument("next(0, -1, 0)", () -> x.next(0, -1, 0));
        due.noArgument("next(0, 0, 3)", () -> x.next(0, 0, 3));
        due.noArgument("next(0, 0, -1)", () -> x.next(0, 0, -1));
        due.noCell("restAt(-1, 10)", () -> x.restAt(-1, 10));
        due.noArgument("restAt(0, 10)", () -> x.restAt(0, 10));
        due.noArgument("restAt(0, -1)", () -> x.restAt(0, -1));
        Letterpeel wide = Build.of(HEAVY);
        due.noArgument("next(0, 10, 0) of a WIDE one", () -> wide.next(0, 10, 0));
        due.noArgument("restAt(0, 10) of a WIDE one", () -> wide.restAt(0, 10));
    }

    /** What was asked before must not tell of a cell that has become another one. */
    private static void asksAnew() {
        Letterpeel x = Build.of("(a.b)", "c");
        due.is("rests", x.rests(0) + x.restAt(0, 1), "4b");
        due.is("rests of another cell", x.rests(1) + x.restAt(1, 1), "30");
        x.letter(0, 3);
        due.is("rests of another expression", x.rests(0) + x.restAt(0, 2), "4c");
        x.swap(0, 1);
        due.is("first", x.first(0) + x.first(1), "c-bc-");
        x.again(1, 1);
        due.is("count", x.count(1, 4), 1);
        Letterpeel y = Build.of(HEAVY, "a");
        due.is("rests of a WIDE one", y.rests(0), -9);
        due.is("rests of another one", y.rests(1), 3);
        due.is("rests of the WIDE one again", y.rests(0), -9);
        due.is("and again", y.rests(0), -9);
    }

    private static void first() {
        String[] texts = {"0", "(a&b)", "1", "!0", "c", "!1", ENDS_AB, "(c.![(b.!c)])", "((b.(c.b))+(c.c))",
            "((c.a)+(b.c))", "((((a.b).c).a).b)", "![(c+!c)]", HEAVY, ELEVEN};
        String[] words = {"none", "none", "-", "-", "c-", "a-", "ab-", "ca-", "cc-",
            "bc-", "abcab-", "none", "?", "?"};
        for (int i = 0; i < texts.length; i++) {
            due.is("first of " + texts[i], Build.of(texts[i]).first(0), words[i]);
        }
        Letterpeel x = new Letterpeel();
        due.noCell("first(6)", () -> x.first(6));
        due.noCell("first(-1)", () -> x.first(-1));
    }

    private static void count() {
        Letterpeel x = Build.of(ENDS_AB, "!0", "[(a.b)]", HEAVY, ELEVEN, "1");
        int power = 1;
        for (int length = 0; length <= 12; length++) {
            due.is("count of !0, " + length, x.count(1, length), power);
            due.is("count of [(a.b)], " + length, x.count(2, length), length % 2 == 0 ? 1 : 0);
            due.is("count of words that end with ab, " + length, x.count(0, length), length < 2 ? 0 : 1 << (length - 2));
            due.is("count of a WIDE one", x.count(3, length), -9);
            due.is("count of the empty word", x.count(5, length), length == 0 ? 1 : 0);
            power *= 3;
        }
        due.is("count of one with 11", x.count(4, 1), -9);
        due.noCell("count(6, 13)", () -> x.count(6, 13));
        due.noCell("count(-1, 0)", () -> x.count(-1, 0));
        due.noArgument("count(0, 13)", () -> x.count(0, 13));
        due.noArgument("count(0, -1)", () -> x.count(0, -1));
        due.noArgument("count(3, 13) of a WIDE one", () -> x.count(3, 13));
    }

    private static void listed() {
        Letterpeel x = Build.of(ENDS_AB, "!(a+b)", HEAVY);
        int[] ends = {0, 0, 1, 2};
        int[] unlike = {1, 1, 9, 27};
        int[] heavy = {1, 1, 3, 8};
        for (int length = 0; length <= 3; length++) {
            due.is("listed of " + ENDS_AB, x.listed(0, length), ends[length]);
            due.is("listed of !(a+b)", x.listed(1, length), unlike[length]);
            due.is("listed of a WIDE one", x.listed(2, length), heavy[length]);
        }
        due.noCell("listed(6, 4)", () -> x.listed(6, 4));
        due.noCell("listed(-1, 0)", () -> x.listed(-1, 0));
        due.noArgument("listed(0, 4)", () -> x.listed(0, 4));
        due.noArgument("listed(0, -1)", () -> x.listed(0, -1));
    }

    private static void word() {
        Letterpeel x = Build.of(ENDS_AB, "!0", HEAVY, "1", "!((b.!0)+[a])");
        due.is("word 0 of length 2", x.word(0, 2, 0), 1);
        due.is("word 1 of length 2", x.word(0, 2, 1), -1);
        due.is("aab", x.word(0, 3, 0), 1);
        due.is("bab", x.word(0, 3, 1), 10);
        due.is("word 2 of length 3", x.word(0, 3, 2), -1);
        due.is("none of length 0", x.word(0, 0, 0), -1);
        due.is("the empty word", x.word(3, 0, 0), 0);
        due.is("the empty word is one", x.word(3, 0, 1), -1);
        due.is("the last of !0", x.word(1, 12, 531_440), 531_440);
        due.is("behind the last of !0", x.word(1, 12, 531_441), -1);
        due.is("some of !0", x.word(1, 12, 123_456), 123_456);
        due.is("far behind", x.word(1, 12, Integer.MAX_VALUE), -1);
        due.is("a WIDE one", x.word(2, 2, 0), -9);
        due.is("a WIDE one, far behind", x.word(2, 2, Integer.MAX_VALUE), -9);
        for (int length = 0, words = 1; length <= 5; length++, words *= 3) {
            int k = 0;
            for (int n = 0; n < words; n++) {
                if (x.takes(4, length, n, 0) == 1) {
                    due.is("word " + k + " of length " + length, x.word(4, length, k++), n);
                }
            }
            due.is("no more of length " + length, x.word(4, length, k), -1);
            due.is("as many as counted", x.count(4, length), k);
            x = Build.of(ENDS_AB, "!0", HEAVY, "1", "!((b.!0)+[a])");
        }
        Letterpeel y = x;
        due.noCell("word(6, 13, -1)", () -> y.word(6, 13, -1));
        due.noCell("word(-1, 0, 0)", () -> y.word(-1, 0, 0));
        due.noArgument("word(0, 13, 0)", () -> y.word(0, 13, 0));
        due.noArgument("word(0, -1, 0)", () -> y.word(0, -1, 0));
        due.noArgument("word(0, 2, -1)", () -> y.word(0, 2, -1));
        due.noArgument("word(2, 2, -1) of a WIDE one", () -> y.word(2, 2, Integer.MIN_VALUE));
    }
}
