/** The bounds that section 1 of the document names: words, EXPRESSIONS, CELLS. A method for each sentence. */
public final class SectionOneTest {
    private static final Due due = new Due();
    private static final String ALL = "[((a+b)+c)]";
    /** 14 SIGNS that take 27 places; no TEXT of a CELL takes more. */
    private static final String LONGEST = "[[[[[[[[[[[[[a]]]]]]]]]]]]]";

    public static void main(String[] args) {
        theWordOfALength();
        theEmptyWord();
        nothingTakesNoWord();
        emptyTakesTheEmptyWord();
        aLetterTakesItsWord();
        notOfNothingTakesAll();
        againTakesTheEmptyWord();
        againPartsWords();
        behindHasEmptyWords();
        orAndOfManyParts();
        signsOfEachKind();
        sixCells();
        fourteenSigns();
        theLongestText();
        turnedNests();
        turnedTakesTurnedWords();
        letteredByEachWay();
        due.end();
    }

    private static void takesOnly(String text, int length, int n) {
        Letterpeel x = Build.of(text);
        int words = (int) Math.pow(3, length);
        for (int other : new int[] {0, n - 1, n, n + 1, words - 1}) {
            if (other >= 0 && other < words) {
                int taken = other == n ? 1 : 0;
                String word = text + " takes (" + length + ", " + other;
                due.is(word + ") by RESTS", x.takes(0, length, other, 0), taken);
                if (length <= 4) {
                    due.is(word + ") by MEANING", x.takes(0, length, other, 1), taken);
                }
            }
        }
        due.is(text + " count", x.count(0, length), 1);
        due.is(text + " word", x.word(0, length, 0), n);
    }

    /** "The WORD (length, n) is that word of this LENGTH that has n words of the same LENGTH ahead of it" */
    private static void theWordOfALength() {
        takesOnly("1", 0, 0);
        takesOnly("a", 1, 0);
        takesOnly("b", 1, 1);
        takesOnly("c", 1, 2);
        takesOnly("(a.a)", 2, 0);
        takesOnly("(a.c)", 2, 2);
        takesOnly("(b.a)", 2, 3);
        takesOnly("(c.c)", 2, 8);
        takesOnly("((a.b).c)", 3, 5);
        takesOnly("((c.b).a)", 3, 21);
        takesOnly("((c.c).c)", 3, 26);
        takesOnly("(((b.a).a).a)", 4, 27);
        takesOnly("(((c.c).c).c)", 4, 80);
        takesOnly("((((b.c).a).c).b)", 5, 142);
        takesOnly("((((c.c).c).c).c)", 5, 242);
        takesOnly("(((((a.a).a).a).a).a)", 6, 0);
        takesOnly("(((((b.a).a).a).a).a)", 6, 243);
        takesOnly("(((((c.c).c).c).c).c)", 6, 728);
    }

    /** "the empty word has none" */
    private static void theEmptyWord() {
        Letterpeel x = Build.of("!0", "!1", "(a+1)");
        due.is("words of LENGTH 0", x.count(0, 0), 1);
        due.is("words of LENGTH 0, one by one", x.listed(0, 0), 1);
        due.is("the only one", x.word(0, 0, 0), 0);
        due.is("no more", x.word(0, 0, 1), -1);
        for (int how = 0; how < 2; how++) {
            due.is("!0 takes it", x.takes(0, 0, 0, how), 1);
            due.is("!1 does not", x.takes(1, 0, 0, how), 0);
            due.is("(a+1) does", x.takes(2, 0, 0, how), 1);
        }
        due.is("it is ahead of all words", x.first(0) + x.first(2) + x.first(1), "--a-");
        due.is("it is told", x.differ(0, 1), "-");
        due.is("it is read", x.reader(0), "-");
    }

    private static void counts(String text, int... many) {
        Letterpeel x = Build.of(text);
        for (int length = 0; length < many.length; length++) {
            due.is("count(" + text + ", " + length + ")", x.count(0, length), many[length]);
            due.is("word behind the last of " + text, x.word(0, length, many[length]), -1);
            if (length <= 3) {
                due.is("listed(" + text + ", " + length + ")", x.listed(0, length), many[length]);
            }
        }
    }

    /** "NOTHING "0": takes no word." */
    private static void nothingTakesNoWord() {
        counts("0", 0, 0, 0, 0, 0, 0, 0, 0, 0, 0, 0, 0, 0);
        due.is("first of NOTHING", new Letterpeel().first(0), "none");
    }

    /** "EMPTY "1": the empty word alone." */
    private static void emptyTakesTheEmptyWord() {
        counts("1", 1, 0, 0, 0, 0, 0, 0, 0, 0, 0, 0, 0, 0);
        counts("!1", 0, 3, 9, 27);
    }

    /** "A LETTER "a", "b", "c": the word of that LETTER alone." */
    private static void aLetterTakesItsWord() {
        counts("b", 0, 1, 0, 0, 0, 0, 0, 0, 0, 0, 0, 0, 0);
        counts("!b", 1, 2, 9, 27);
    }

    /** "the words that x does not take", of none and of all. */
    private static void notOfNothingTakesAll() {
        counts("!0", 1, 3, 9, 27, 81, 243, 729, 2187, 6561, 19_683, 59_049, 177_147, 531_441);
        counts("!!0", 0, 0, 0, 0);
        counts("!" + ALL, 0, 0, 0, 0);
    }

    /** "AGAIN: the empty word", also of an x that takes no word, or that one. */
    private static void againTakesTheEmptyWord() {
        counts("[0]", 1, 0, 0, 0);
        counts("[1]", 1, 0, 0, 0);
        counts("[(a&b)]", 1, 0, 0, 0);
        counts("[(a.0)]", 1, 0, 0, 0);
    }

    /** "and each word that is parted into words that x takes" */
    private static void againPartsWords() {
        counts("[a]", 1, 1, 1, 1, 1, 1, 1, 1, 1, 1, 1, 1, 1);
        counts("[(1+a)]", 1, 1, 1, 1);
        counts("[(a.b)]", 1, 0, 1, 0, 1, 0, 1);
        counts("[((b.b)+((a.a).a))]", 1, 0, 1, 1, 1, 2, 2);
        counts(ALL, 1, 3, 9, 27, 81);
        counts("[!1]", 1, 3, 9, 27, 81);
    }

    /** "parted into as many words as it has PARTS (some perhaps empty)" */
    private static void behindHasEmptyWords() {
        counts("(1.1)", 1, 0, 0, 0);
        counts("([a].[b])", 1, 2, 3, 4, 5);
        counts("(([a].[b]).[c])", 1, 3, 6, 10, 15);
        counts("((1+a).(1+b))", 1, 2, 1, 0);
        counts("(!0.!0)", 1, 3, 9, 27);
        Letterpeel x = Build.of("(([a].[b]).[c])");
        x.plain(0);
        due.is("three PARTS", x.text(0), "([a].[b].[c])");
        due.is("all of them empty", x.takes(0, 0, 0, 1), 1);
        due.is("but the middle one", x.takes(0, 2, 4, 1), 1);
        due.is("but the last one", x.takes(0, 2, 8, 1), 1);
        due.is("none empty", x.takes(0, 3, 5, 1), 1);
        due.is("in another sequence", x.takes(0, 2, 3, 1), 0);
    }

    /** "OR takes the words that some PART takes, AND those that all PARTS take" */
    private static void orAndOfManyParts() {
        Letterpeel x = Build.of("((a+b)+c)", "((!a&!b)&!c)");
        x.plain(0);
        x.plain(1);
        due.is("three PARTS each", x.text(0) + x.text(1), "(a+b+c)(!a&!b&!c)");
        for (int letter = 0; letter < 3; letter++) {
            due.is("one PART takes it", x.takes(0, 1, letter, 1), 1);
            due.is("one PART does not", x.takes(1, 1, letter, 1), 0);
        }
        due.is("no PART takes it", x.takes(0, 0, 0, 1), 0);
        due.is("each PART takes it", x.takes(1, 0, 0, 1), 1);
        due.is("listed", x.listed(0, 2) + x.listed(1, 2), 9);
    }

    private static void signs(String text, int signs) {
        Letterpeel x = Build.of(text);
        due.is("signs of " + text, x.signs(0), signs);
        due.is("copy of " + text, x.copy(0, 5), signs);
        due.is("sign over " + text, x.sign(5, 0), signs);
    }

    /** "SIGNS: of NOTHING, EMPTY, a LETTER 1; of NOT and AGAIN 1 more than x has; of the others .." */
    private static void signsOfEachKind() {
        signs("0", 1);
        signs("1", 1);
        signs("c", 1);
        signs("!c", 2);
        signs("[c]", 2);
        signs("(a+0)", 3);
        signs("(a&1)", 3);
        signs("(a.b)", 3);
        signs("![(a.b)]", 5);
        signs("((a+b)+(a+c))", 7);
        Letterpeel x = Build.of("((a+b)+c)", "(((a&b)&c)&1)", "((((a.b).c).b).a)");
        due.is("three PARTS of OR", x.plain(0), 5);
        due.is("four PARTS of AND", x.plain(1), 7);
        due.is("five PARTS of BEHIND", x.plain(2), 9);
        due.is("texts", x.text(0) + x.text(1) + x.text(2), "(a+b+c)(1&a&b&c)(a.b.c.b.a)");
    }

    /** "There are six CELLS, 0 to 5 .. at first NOTHING" */
    private static void sixCells() {
        Letterpeel x = new Letterpeel();
        for (int cell = 0; cell < 6; cell++) {
            due.is("at first", x.text(cell) + x.signs(cell) + x.empties(cell), "01false");
        }
        for (int cell = 0; cell < 6; cell++) {
            due.is("what it had", x.sign(cell, 2 + cell % 3), 1);
            for (int other = 0; other < 6; other++) {
                String text = other > cell ? "0" : "abc".substring(other % 3, other % 3 + 1);
                due.is("the cell " + other + " when " + cell + " got its sign", x.text(other), text);
            }
        }
        due.is("swap of the first and the last one", x.swap(0, 5), 1);
        due.is("the first and the last one", x.text(0) + x.text(5), "ca");
        due.is("or of the first and the last one", x.or(5, 0, 3), 3);
        due.is("text", x.text(3), "(a+c)");
    }

    /** "each with an EXPRESSION of at most 14 SIGNS" */
    private static void fourteenSigns() {
        Letterpeel x = Build.of("!((((((a.b)+c)&1).b)+a).0)");
        due.is("14 SIGNS", x.signs(0), 14);
        for (int cell = 1; cell < 6; cell++) {
            due.is("copy of 14 SIGNS", x.copy(0, cell), 14);
        }
        due.is("all CELLS together", x.house(3), 84);
        for (int cell = 0; cell < 6; cell++) {
            due.is("text of 14 SIGNS", x.text(cell), "!((((((a.b)+c)&1).b)+a).0)");
            due.is("no 15th", x.again(cell, cell), -9);
        }
        due.is("all CELLS are as before", x.house(3), 84);
    }

    private static void theLongestText() {
        Letterpeel x = Build.of(LONGEST, "(b.c)");
        due.is("signs", x.signs(0), 14);
        due.is("copy", x.copy(0, 5), 14);
        due.is("copied", x.text(5), LONGEST);
        due.is("swap", x.swap(0, 1), 1);
        due.is("swapped", x.text(0) + x.text(1), "(b.c)" + LONGEST);
        due.is("swap back", x.swap(0, 1), 1);
        due.is("swapped back", x.text(0) + x.text(1), LONGEST + "(b.c)");
        due.is("turn", x.turn(0), 0);
        due.is("TURNED", x.text(0), LONGEST);
        due.is("letter", x.letter(0, 4), 1);
        due.is("LETTERED", x.text(0), LONGEST.replace('a', 'c'));
        due.is("takes cccc", x.takes(0, 4, 80, 1), 1);
        due.is("takes cccb", x.takes(0, 4, 79, 1), 0);
        due.is("listed", x.listed(0, 3), 1);
        due.is("count", x.count(0, 12), 1);
        due.is("restText", x.restText(0, 0, 0), "[c]");
        due.is("isSound", x.isSound(), true);
        due.is("same", x.same(0, 5), 0);
        due.is("differ", x.differ(0, 5), "a-");
        due.is("open", x.open(0), 1);
        due.is("reader", x.reader(1), "[c]");
        due.is("plain", x.plain(0), 2);
        Letterpeel y = Build.of("(([a]+b).([b]+([c].(c+a))))");
        due.is("a REST of 27 places", y.rest(0, 0, 0), 14);
        due.is("its TEXT", y.text(0), "(([a].(([c].(a+c))+[b]))+1)");
    }

    private static void turned(String from, String to) {
        Letterpeel x = Build.of(from);
        int changed = from.equals(to) ? 0 : 1;
        due.is("turn of " + from, x.turn(0), changed);
        due.is("TURNED " + from, x.text(0), to);
        due.is("turn back of " + to, x.turn(0), changed);
        due.is("TURNED back " + to, x.text(0), from);
    }

    /** "with the PARTS of each BEHIND in it in the opposite sequence": of each one, and of no other. */
    private static void turnedNests() {
        turned("0", "0");
        turned("1", "1");
        turned("(a+(b&c))", "(a+(b&c))");
        turned("!(a.b)", "!(b.a)");
        turned("[(a.b)]", "[(b.a)]");
        turned("((a.b)+(b.c))", "((b.a)+(c.b))");
        turned("((a.b)&(b.c))", "((b.a)&(c.b))");
        turned("((a.b).(c.a))", "((a.c).(b.a))");
        turned("(((a.b).c).a)", "(a.(c.(b.a)))");
        turned("((a+b).(c&a))", "((c&a).(a+b))");
        turned("(!(a.1).[(0.c)])", "([(c.0)].!(1.a))");
        turned("((((((a.b).c).a).b).c).!a)", "(!a.(c.(b.(a.(c.(b.a))))))");
    }

    /** "the TURNED EXPRESSION takes just the turned words": the empty one is its own. */
    private static void turnedTakesTurnedWords() {
        Letterpeel x = Build.of("(1+(([a].b).!c))");
        due.is("takes the empty word", x.empties(0), true);
        due.is("takes aab", x.takes(0, 3, 1, 1), 1);
        due.is("takes baa", x.takes(0, 3, 9, 1), 1);
        due.is("takes aca", x.takes(0, 3, 6, 1), 0);
        due.is("takes abc", x.takes(0, 3, 5, 1), 0);
        x.turn(0);
        due.is("takes the empty word, TURNED", x.empties(0), true);
        due.is("takes baa, TURNED", x.takes(0, 3, 9, 1), 1);
        due.is("takes cba, TURNED", x.takes(0, 3, 21, 1), 0);
        due.is("takes caa, TURNED", x.takes(0, 3, 18, 1), 0);
    }

    /** "0 a, b, c; 1 a, c, b; 2 b, a, c; 3 b, c, a; 4 c, a, b; 5 c, b, a" */
    private static void letteredByEachWay() {
        String[] ways = {"abc", "acb", "bac", "bca", "cab", "cba"};
        for (int way = 0; way < 6; way++) {
            String to = ways[way];
            Letterpeel x = Build.of("a", "b", "c", "((a.[b])+!(c&1))", "0", "1");
            for (int letter = 0; letter < 3; letter++) {
                int changed = to.charAt(letter) == 'a' + letter ? 0 : 1;
                due.is("letter " + letter + " by " + way, x.letter(letter, way), changed);
                due.is("it is", x.text(letter), to.substring(letter, letter + 1));
            }
            due.is("of all three by " + way, x.letter(3, way), way == 0 ? 0 : 1);
            due.is("they are", x.text(3),
                    "((" + to.charAt(0) + ".[" + to.charAt(1) + "])+!(" + to.charAt(2) + "&1))");
            due.is("NOTHING by " + way, x.letter(4, way) + x.text(4), "00");
            due.is("EMPTY by " + way, x.letter(5, way) + x.text(5), "01");
        }
    }
}
