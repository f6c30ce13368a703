/** The bounds that section 2 of the document names: PLAIN ones and RESTS. A method for each sentence. */
public final class SectionTwoTest {
    private static final Due due = new Due();

    public static void main(String[] args) {
        notOfNot();
        againOfAgain();
        partsGiveTheirOwn();
        emptyOnesGo();
        nothingRules();
        nothingOnesGo();
        allRules();
        allOnesGo();
        oneOfLikePartsStays();
        withoutAnyPart();
        onePartAlone();
        fromInsideOut();
        signsRise();
        theFirstUnlikePlace();
        restsOfSingleSigns();
        restOfEachKind();
        restOfBehind();
        restBehindTheEmptyWord();
        restBehindALongWord();
        restOfRestsIsMadePlain();
        restsAreNumbered();
        likeTextsAreOne();
        tenAndElevenRests();
        twentySignsOfALaterRest();
        twentySignsOfRest0();
        due.end();
    }

    /** It becomes this, keeps to that when made PLAIN again, and the call returns its SIGNS. */
    private static void plain(String from, String to) {
        Letterpeel x = Build.of(from);
        int signs = Model.Tree.of(to).signs();
        due.is("plain of " + from, x.plain(0), signs);
        due.is("PLAIN " + from, x.text(0), to);
        due.is("plain again", x.plain(0) + x.text(0), signs + to);
    }

    /** "NOT of a NOT is what that is NOT of." */
    private static void notOfNot() {
        plain("!a", "!a");
        plain("!!a", "a");
        plain("!!!a", "!a");
        plain("!!!!!!!!!!!!!a", "!a");
        plain("!!!!!!!!!!!!a", "a");
        plain("!!(a.b)", "(a.b)");
        plain("![!a]", "![!a]");
        plain("!!0", "0");
        plain("!!!0", "!0");
    }

    /** "AGAIN of NOTHING or of EMPTY is EMPTY; AGAIN of an AGAIN is that AGAIN." */
    private static void againOfAgain() {
        plain("[0]", "1");
        plain("[1]", "1");
        plain("[[0]]", "1");
        plain("[[[1]]]", "1");
        plain("[a]", "[a]");
        plain("[[a]]", "[a]");
        plain("[[[[[[[[[[[[[a]]]]]]]]]]]]]", "[a]");
        plain("[!0]", "[!0]");
        plain("[!1]", "[!1]");
        plain("[![a]]", "[![a]]");
        plain("![0]", "!1");
    }

    /** "a PART that is a BEHIND (an OR, an AND) gives its own PARTS in its place" */
    private static void partsGiveTheirOwn() {
        plain("((a.b).c)", "(a.b.c)");
        plain("(c.(b.a))", "(c.b.a)");
        plain("((a.b).(c.a))", "(a.b.c.a)");
        plain("((((((a.b).c).a).b).c).!a)", "(a.b.c.a.b.c.!a)");
        plain("((c+b)+a)", "(a+b+c)");
        plain("(c+(b+a))", "(a+b+c)");
        plain("((c&b)&a)", "(a&b&c)");
        plain("(c&(b&a))", "(a&b&c)");
        plain("((a+b).c)", "((a+b).c)");
        plain("((a.b)+c)", "((a.b)+c)");
        plain("((a+b)&c)", "((a+b)&c)");
        plain("(c&(a+b))", "((a+b)&c)");
        plain("(!(a+b)+c)", "(!(a+b)+c)");
        plain("([(a.b)].c)", "([(a.b)].c)");
    }

    /** BEHIND: "EMPTY ones go" */
    private static void emptyOnesGo() {
        plain("(1.(a.b))", "(a.b)");
        plain("((a.b).1)", "(a.b)");
        plain("((a.1).b)", "(a.b)");
        plain("(a.([0].b))", "(a.b)");
        plain("(1+a)", "(1+a)");
        plain("(1&a)", "(1&a)");
        plain("(!1.a)", "(!1.a)");
    }

    /** BEHIND: "with a NOTHING it is NOTHING"; AND: NOTHING "in that of !0" */
    private static void nothingRules() {
        plain("(0.a)", "0");
        plain("(a.0)", "0");
        plain("((a.0).b)", "0");
        plain("(1.0)", "0");
        plain("(!0.0)", "0");
        plain("(0&a)", "0");
        plain("(a&0)", "0");
        plain("((a&0)&b)", "0");
        plain("(!0&0)", "0");
        plain("(!!0&a)", "0");
    }

    /** OR: "NOTHING ones go" */
    private static void nothingOnesGo() {
        plain("(0+a)", "a");
        plain("(a+0)", "a");
        plain("((a+0)+b)", "(a+b)");
        plain("(a+(b.0))", "a");
        plain("(a+!!0)", "a");
    }

    /** OR: "with a PART "!0" it is "!0"" */
    private static void allRules() {
        plain("(!0+a)", "!0");
        plain("(a+!0)", "!0");
        plain("((a+!0)+b)", "!0");
        plain("(0+!0)", "!0");
        plain("(a+!(b.0))", "!0");
        plain("(!0.a)", "(!0.a)");
    }

    /** AND: "likewise, with "!0" in the place of NOTHING" */
    private static void allOnesGo() {
        plain("(!0&a)", "a");
        plain("(a&!0)", "a");
        plain("((a&!0)&b)", "(a&b)");
        plain("(a&![1])", "(!1&a)");
    }

    /** "of like PARTS one stays" */
    private static void oneOfLikePartsStays() {
        plain("(a+a)", "a");
        plain("(a&a)", "a");
        plain("((a+b)+a)", "(a+b)");
        plain("((a&b)&(b&a))", "(a&b)");
        plain("(((a+a)+a)+(a+a))", "a");
        plain("((a+b)&(b+a))", "(a+b)");
        plain("((a.b)+(a.(1.b)))", "(a.b)");
        plain("(a.a)", "(a.a)");
        plain("((a+(1.b))+(b+c))", "(a+b+c)");
    }

    /** "without any PART it is EMPTY (NOTHING, "!0")" */
    private static void withoutAnyPart() {
        plain("(1.1)", "1");
        plain("((1.1).(1.1))", "1");
        plain("(0+0)", "0");
        plain("((0+0)+(0+0))", "0");
        plain("(!0&!0)", "!0");
        plain("((!0&!0)&!0)", "!0");
    }

    /** "one PART alone is itself" */
    private static void onePartAlone() {
        plain("((a+b).1)", "(a+b)");
        plain("((a.b)+0)", "(a.b)");
        plain("((a.b)&!0)", "(a.b)");
        plain("(!(a&b).1)", "!(a&b)");
        plain("(([a]+0).1)", "[a]");
    }

    /** "An EXPRESSION is made PLAIN from inside out" */
    private static void fromInsideOut() {
        plain("!(!a+0)", "a");
        plain("[([a].1)]", "[a]");
        plain("[(0.a)]", "1");
        plain("(((a+0).b).c)", "(a.b.c)");
        plain("(((a.b)+0).c)", "(a.b.c)");
        plain("((a.1)+(1.a))", "a");
        plain("(a+(b&(c+!0)))", "(a+b)");
        plain("!([(0+1)]&!0)", "!1");
    }

    /** "signs rise so: ! & ( ) + . 0 1 [ ] a b c": each with the one behind it, as far as two PARTS can differ so. */
    private static void signsRise() {
        plain("(c+b)", "(b+c)");
        plain("(b+a)", "(a+b)");
        plain("(a+[a])", "([a]+a)");
        plain("([a]+1)", "(1+[a])");
        plain("((0.a)+1)", "1");
        plain("((!1.a)+(!0.a))", "((!0.a)+(!1.a))");
        plain("(!a+!0)", "!0");
        plain("(!a+(b+!1))", "(!1+!a+b)");
        plain("(1+(a.b))", "((a.b)+1)");
        plain("((a.b)+(a+[b]))", "((a.b)+[b]+a)");
        plain("((a.b)&(a+b))", "((a+b)&(a.b))");
        plain("((a.b)+(a&b))", "((a&b)+(a.b))");
        plain("((a.(b.c))+(a.b))", "((a.b)+(a.b.c))");
        plain("((a+(b+c))&(a+b))", "((a+b)&(a+b+c))");
        plain("((a&b)+(a&(b&c)))", "((a&b&c)+(a&b))");
        plain("((a.b)+!c)", "(!c+(a.b))");
        plain("(!(a.b)+!!a)", "(!(a.b)+a)");
        plain("(!a+!(a.b))", "(!(a.b)+!a)");
        plain("(b&(a&([a]&(1&(!a&!1)))))", "(!1&!a&1&[a]&a&b)");
    }

    /** "the one that has the lesser sign at the first place at which both are unlike .. stands first" */
    private static void theFirstUnlikePlace() {
        plain("((b.a)+(a.c))", "((a.c)+(b.a))");
        plain("((a.c)+(a.b))", "((a.b)+(a.c))");
        plain("((a.[c])+(a.[b]))", "((a.[b])+(a.[c]))");
        plain("([(a.c)]+[(a.b)])", "([(a.b)]+[(a.c)])");
        plain("((b.c)+((a.c)+(a.b)))", "((a.b)+(a.c)+(b.c))");
        plain("(!(c.a)&!(b.c))", "(!(b.c)&!(c.a))");
        plain("((a.(b.c))+(a.(c.a)))", "((a.b.c)+(a.c.a))");
    }

    private static void rest(String from, String a, String b, String c) {
        String[] to = {a, b, c};
        for (int letter = 0; letter < 3; letter++) {
            Letterpeel x = Build.of(from);
            due.is("rest of " + from + " by " + letter, x.rest(0, letter, 5), Model.Tree.of(to[letter]).signs());
            due.is("REST of " + from + " by " + letter, x.text(5), to[letter]);
            due.is("restText of " + from + " by " + letter, x.restText(0, 1, letter), to[letter]);
            due.is("empties of it", x.empties(5) ? 1 : 0, x.takes(0, 1, letter, 1));
        }
    }

    /** "of NOTHING, EMPTY and other LETTERS NOTHING; of that LETTER EMPTY" */
    private static void restsOfSingleSigns() {
        rest("0", "0", "0", "0");
        rest("1", "0", "0", "0");
        rest("a", "1", "0", "0");
        rest("b", "0", "1", "0");
        rest("c", "0", "0", "1");
    }

    /** "of NOT x the NOT of the REST of x; of AGAIN x the BEHIND ..; of OR and AND the OR and AND of the RESTS" */
    private static void restOfEachKind() {
        rest("!0", "!0", "!0", "!0");
        rest("!b", "!0", "!1", "!0");
        rest("[b]", "0", "[b]", "0");
        rest("[!0]", "(!0.[!0])", "(!0.[!0])", "(!0.[!0])");
        rest("[(b.a)]", "0", "(a.[(b.a)])", "0");
        rest("[[(1+a)]]", "[(1+a)]", "0", "0");
        rest("(a+(b.c))", "1", "c", "0");
        rest("(!a+!b)", "!0", "!0", "!0");
        rest("(!a&!b)", "!1", "!1", "!0");
        rest("([a]&[(a+c)])", "([(a+c)]&[a])", "0", "0");
        rest("((a+b)&(b+c))", "0", "1", "0");
    }

    /** "for each PART ahead of which all PARTS take the empty word": for the first one always. */
    private static void restOfBehind() {
        rest("(a.b)", "b", "0", "0");
        rest("([a].b)", "([a].b)", "1", "0");
        rest("(([a].[b]).c)", "([a].[b].c)", "([b].c)", "1");
        rest("((a.[b]).c)", "([b].c)", "0", "0");
        rest("(([a].b).[c])", "([a].b.[c])", "[c]", "0");
        rest("([a].[a])", "(([a].[a])+[a])", "0", "0");
        rest("((1+a).(1+b))", "(1+b)", "1", "0");
        rest("(!b.c)", "(!0.c)", "(!1.c)", "((!0.c)+1)");
        rest("(b.!c)", "0", "!c", "0");
    }

    /** "REST behind a word": behind the empty one it is the PLAIN EXPRESSION itself. */
    private static void restBehindTheEmptyWord() {
        Letterpeel x = Build.of("((b+a)+0)", "(a.1)", "0");
        due.is("of an OR", x.restText(0, 0, 0), "(a+b)");
        due.is("of a BEHIND", x.restText(1, 0, 0), "a");
        due.is("of NOTHING", x.restText(2, 0, 0), "0");
        due.is("the CELL stays", x.text(0), "((b+a)+0)");
    }

    /** "by its LETTERS, one behind the other, the first one first" */
    private static void restBehindALongWord() {
        Letterpeel x = Build.of("(a.(b.(c.(a.(b.(c.a))))))", "(([a].b).[c])");
        String[] rests = {"(a.b.c.a.b.c.a)", "(b.c.a.b.c.a)", "(c.a.b.c.a)", "(a.b.c.a)", "(b.c.a)", "(c.a)", "a"};
        int n = 0;
        for (int length = 0; length <= 6; length++) {
            due.is("behind " + length, x.restText(0, length, n), rests[length]);
            n = 3 * n + length % 3;
        }
        due.is("behind ab", x.restText(1, 2, 1), "[c]");
        due.is("behind ba", x.restText(1, 2, 3), "0");
        due.is("behind aaabcc", x.restText(1, 6, 17), "[c]");
    }

    /** "made by the same rules from RESTS" */
    private static void restOfRestsIsMadePlain() {
        rest("((a.b)+(a.b))", "b", "0", "0");
        rest("((a.c)+(a.b))", "(b+c)", "0", "0");
        rest("!!a", "1", "0", "0");
        rest("!(a.!b)", "b", "!0", "!0");
        rest("((a.b)&(a.!!b))", "b", "0", "0");
        rest("[((a.b)+a)]", "((1+b).[((a.b)+a)])", "0", "0");
    }

    private static void table(String text, String[] rests, int... nexts) {
        Letterpeel x = Build.of(text);
        due.is("rests of " + text, x.rests(0), rests.length);
        for (int k = 0; k < 10; k++) {
            due.is("restAt " + k + " of " + text, x.restAt(0, k), k < rests.length ? rests[k] : "");
            for (int letter = 0; letter < 3; letter++) {
                int next = k < rests.length ? nexts[3 * k + letter] : -1;
                due.is("next " + k + " by " + letter + " of " + text, x.next(0, k, letter), next);
            }
        }
    }

    /** "0 is it, made PLAIN; then by rising numbers, of each the RESTS by a, b, c, as far as they have not been met" */
    private static void restsAreNumbered() {
        table("0", new String[] {"0"}, 0, 0, 0);
        table("!(a.0)", new String[] {"!0"}, 0, 0, 0);
        table("(1.1)", new String[] {"1", "0"}, 1, 1, 1, 1, 1, 1);
        table("a", new String[] {"a", "1", "0"}, 1, 2, 2, 2, 2, 2, 2, 2, 2);
        table("c", new String[] {"c", "0", "1"}, 1, 1, 2, 1, 1, 1, 1, 1, 1);
        table("((c.a)+((b.b)+(a.c)))", new String[] {"((a.c)+(b.b)+(c.a))", "c", "b", "a", "0", "1"},
                1, 2, 3, 4, 4, 5, 4, 5, 4, 5, 4, 4, 4, 4, 4, 4, 4, 4);
        table("[(a.b)]", new String[] {"[(a.b)]", "(b.[(a.b)])", "0"}, 1, 2, 2, 2, 0, 2, 2, 2, 2);
    }

    /** "like TEXTS are one": RESTS that take the same words stay two, if their TEXTS are unlike. */
    private static void likeTextsAreOne() {
        table("((a.!0)+(b.[((a+b)+c)]))", new String[] {"((a.!0)+(b.[(a+b+c)]))", "!0", "[(a+b+c)]", "0"},
                1, 2, 3, 1, 1, 1, 2, 2, 2, 3, 3, 3);
        table("((a.b)+(b.b))", new String[] {"((a.b)+(b.b))", "b", "0", "1"}, 1, 1, 2, 2, 3, 2, 2, 2, 2, 2, 2, 2);
    }

    private static void isWide(String text) {
        Letterpeel x = Build.of(text, "a", "a");
        due.is("rests of the WIDE " + text, x.rests(0), -9);
        for (int k = 0; k < 10; k++) {
            due.is("next " + k + " of it", x.next(0, k, k % 3), -9);
            due.is("restAt " + k + " of it", x.restAt(0, k), "?");
        }
        due.is("first of it", x.first(0), "?");
        for (int length = 0; length <= 12; length++) {
            due.is("count of it", x.count(0, length), -9);
            due.is("word of it", x.word(0, length, length), -9);
        }
        due.is("same with it", x.same(0, 1) + x.same(1, 0) + x.same(0, 0), -27);
        due.is("within with it", x.within(0, 1) + x.within(1, 0) + x.within(0, 0), -27);
        due.is("differ with it", x.differ(0, 1) + x.differ(1, 0) + x.differ(0, 0), "???");
        due.is("it is sound all the same", x.isSound(), true);
    }

    private static void isNotWide(String text, int rests) {
        Letterpeel x = Build.of(text);
        due.is("rests of " + text, x.rests(0), rests);
        due.is("the last one is there", x.restAt(0, rests - 1).isEmpty(), false);
        due.is("its REST is there", x.next(0, rests - 1, 2) >= 0, true);
        if (rests < 10) {
            due.is("none is behind the last one", x.restAt(0, rests) + x.next(0, rests, 0), "-1");
        }
        for (int length = 0; length <= 3; length++) {
            due.is("count " + length + " of " + text, x.count(0, length), x.listed(0, length));
        }
        due.is("same(0, 0) of " + text, x.same(0, 0), 1);
        due.is("isSound with " + text, x.isSound(), true);
    }

    /** "WIDE, if more than 10 would come of that": these have 9, 10 and 11 RESTS, none with more than 20 SIGNS. */
    private static void tenAndElevenRests() {
        isNotWide("(![(b.!a)].c)", 9);
        isNotWide("((!(c.!b).a).!b)", 10);
        isNotWide("(!((b.b).[!b]).[b])", 10);
        isWide("(((![a].!b)+c).c)");
        isWide("(((![c].!b)+a).c)");
    }

    /** "or one of them with more than 20 SIGNS": the REST that tells has 20 or 21, and there are at most 10. */
    private static void twentySignsOfALaterRest() {
        isNotWide("[!(!b.![a])]", 3);
        isNotWide("!([!c].c)", 4);
        isNotWide("[!([c]+b)]", 6);
        isNotWide("(!a.((a.a).!a))", 9);
        isNotWide("((c+(b.[b])).!(!b.c))", 10);
        isWide("[!(![!b]+!a)]");
        isWide("![(![c]+1)]");
        isWide("![!(a+[c])]");
        isWide("(((!c.c).!a).a)");
        isWide("((!(a.b).(c.!a)).a)");
    }

    /** "(0, too)": a CELL has 14 SIGNS at most, but a side of a LAW can have more. All its RESTS are NOTHING here. */
    private static void twentySignsOfRest0() {
        String[] ends = {"(a.(b.(c.[a])))", "!(a.(b.(c.a)))", "!(a.(b.(c.[a])))", "!(a.(b.![[c]]))"};
        int[] signs = {20, 20, 21, 19};
        for (int i = 0; i < ends.length; i++) {
            Letterpeel x = Build.of("(a&b)", "(a.(b.(c.b)))", ends[i]);
            due.is("law 18 with " + signs[i] + " SIGNS", x.law(18, 0, 1, 2), signs[i] > 20 ? -9 : 1);
            due.is("the CELLS are not WIDE", x.rests(0) > 0 && x.rests(1) > 0, true);
        }
    }
}
