/** The bounds that the promises 1 to 37 name themselves, a method for each promise that names one. */
public final class EdgesTest {
    private static final Due due = new Due();
    private static final String ALL = "!0";
    /** 11 SIGNS; by a its REST has 24. By b 19, and by ba it is what it was. */
    private static final String HEAVY = "[((([a].[b]).[c]).a)]";

    public static void main(String[] args) {
        signGivesEachSign();
        joinsOfJoins();
        joinsOfOneCell();
        swapOfUnlikeTexts();
        turnAndLetterToALikeText();
        restIntoEachCell();
        openTellsOfTheEmptyWord();
        takesUpTo20Signs();
        takesOnTheWay();
        restTextUpTo20Signs();
        nextAndRestAtBehindTheLast();
        nextAndRestAtBehindOneOfMore();
        firstOfFewAndMany();
        countOfEachLength();
        listedOfEachLength();
        wordOfEachK();
        twoOfWhichOneIsWide();
        differTellsTheFirst();
        withinOneWay();
        lawAsksForAllThreeCells();
        readerOfNoneAndTwelve();
        houseAtItsEnds();
        knocks();
        soundAtTheBounds();
        digestAtItsEnds();
        due.end();
    }

    /** Promise 2: "which: 0 NOTHING, 1 EMPTY, 2 to 4 the LETTERS. Returns the SIGNS of what it had." */
    private static void signGivesEachSign() {
        Letterpeel x = Build.of("!!!!!!!!!!!!!a");
        due.is("it had 14", x.sign(0, 0), 14);
        due.is("NOTHING", x.text(0), "0");
        due.is("it had 1", x.sign(0, 1), 1);
        due.is("EMPTY", x.text(0), "1");
        for (int which = 2; which <= 4; which++) {
            due.is("sign " + which, x.sign(0, which), 1);
            due.is("text " + which, x.text(0), "abc".substring(which - 2, which - 1));
        }
    }

    /** Promises 3 to 5: "the first one first (one that is an OR itself is one PART)" */
    private static void joinsOfJoins() {
        Letterpeel x = Build.of("(a+b)", "(b&a)", "(c.b)");
        due.is("or", x.or(0, 0, 3), 7);
        due.is("an OR is one PART", x.text(3), "((a+b)+(a+b))");
        due.is("and", x.and(1, 0, 3), 7);
        due.is("an AND is one PART", x.text(3), "((b&a)&(a+b))");
        due.is("behind", x.behind(2, 1, 3), 7);
        due.is("a BEHIND is one PART", x.text(3), "((c.b).(b&a))");
        Letterpeel y = Build.of("((a+b)+c)", "b");
        y.plain(0);
        due.is("or with three PARTS", y.or(0, 1, 0), 7);
        due.is("they are one PART", y.text(0), "((a+b+c)+b)");
        due.is("or with itself", y.or(1, 1, 1), 3);
        due.is("nothing is made PLAIN", y.text(1), "(b+b)");
    }

    /** "into: the CELL that gets it (perhaps one of both)" */
    private static void joinsOfOneCell() {
        Letterpeel x = Build.of("a", "b");
        due.is("into the first one", x.or(0, 1, 0), 3);
        due.is("text", x.text(0) + x.text(1), "(a+b)b");
        due.is("into the second one", x.behind(0, 1, 1), 5);
        due.is("text", x.text(0) + x.text(1), "(a+b)((a+b).b)");
        due.is("into both", x.and(0, 0, 0), 7);
        due.is("text", x.text(0), "((a+b)&(a+b))");
        due.is("not into itself", x.not(1, 1), 6);
        due.is("text", x.text(1), "!((a+b).b)");
        due.is("again into itself", x.again(1, 1), 7);
        due.is("text", x.text(1), "[!((a+b).b)]");
    }

    /** Promise 9: "1 if their TEXTS are unlike, otherwise 0" */
    private static void swapOfUnlikeTexts() {
        Letterpeel x = Build.of("(a+b)", "(b+a)", "(a+b)", "!a", "!!!a");
        due.is("TEXTS unlike, words alike", x.swap(0, 1), 1);
        due.is("text", x.text(0) + x.text(1), "(b+a)(a+b)");
        due.is("TEXTS alike", x.swap(1, 2), 0);
        due.is("one begins as the other", x.swap(3, 4), 1);
        due.is("text", x.text(3) + x.text(4), "!!!a!a");
        for (int cell = 0; cell < 6; cell++) {
            String text = x.text(cell);
            due.is("the same", x.swap(cell, cell), 0);
            due.is("it stays", x.text(cell), text);
        }
    }

    /** Promises 10 and 11: "1 if its TEXT is another one then, otherwise 0" */
    private static void turnAndLetterToALikeText() {
        Letterpeel x = Build.of("((a.b).(a.b))", "(a.a)", "((a+b).(a+b))", "((a.b)+(b.a))", "(a+b)");
        due.is("turn", x.turn(0) + x.text(0), "1((b.a).(b.a))");
        due.is("turn of the same PARTS", x.turn(1) + x.text(1), "0(a.a)");
        due.is("turn of the same ORs", x.turn(2) + x.text(2), "0((a+b).(a+b))");
        due.is("turn to what takes the same words", x.turn(3) + x.text(3), "1((b.a)+(a.b))");
        due.is("letter to what takes the same words", x.letter(4, 2) + x.text(4), "1(b+a)");
        due.is("letter of others", x.letter(1, 1) + x.text(1), "0(a.a)");
        due.is("letter of it", x.letter(1, 5) + x.text(1), "1(c.c)");
    }

    /** Promise 13: "the REST of an EXPRESSION, made PLAIN, by a LETTER" */
    private static void restIntoEachCell() {
        for (int into = 0; into < 6; into++) {
            Letterpeel x = Build.of("((1.a).(b+b))", "c", "c", "c", "c", "c");
            due.is("rest into " + into, x.rest(0, 0, into), 1);
            for (int cell = 0; cell < 6; cell++) {
                String text = cell == into ? "b" : cell == 0 ? "((1.a).(b+b))" : "c";
                due.is("the cell " + cell + " then", x.text(cell), text);
            }
        }
    }

    /** Promise 14: "1 if it takes the empty word, otherwise 0" */
    private static void openTellsOfTheEmptyWord() {
        Letterpeel x = Build.of("!a", "[0]", "(a.[b])", "!!(a+b)", "1");
        int[] taken = {1, 1, 0, 0, 1, 0};
        String[] rests = {"!a", "1", "(a.[b])", "(a+b)", "1", "0"};
        for (int cell = 0; cell < 6; cell++) {
            due.is("open of " + x.text(cell), x.open(cell), taken[cell]);
            due.is("it is PLAIN", x.reader(1), rests[cell]);
        }
    }

    /** Promise 20: "-9 if a REST .. would have more than 20 SIGNS (by 0 alone)" */
    private static void takesUpTo20Signs() {
        Letterpeel x = Build.of("[([!b].!b)]", "[(!a.[!c])]", "[![!c]]", "[(!b.c)]", HEAVY);
        due.is("20 SIGNS behind b", x.takes(0, 1, 1, 0), 0);
        due.is("21 SIGNS behind a", x.takes(1, 1, 0, 0), -9);
        due.is("by MEANING", x.takes(1, 1, 0, 1), 1);
        due.is("20 SIGNS behind ac", x.takes(2, 2, 2, 0), 0);
        due.is("21 SIGNS behind cb", x.takes(3, 2, 7, 0), -9);
        due.is("by MEANING", x.takes(3, 2, 7, 1), 0);
        due.is("behind c alone", x.takes(3, 1, 2, 0), 1);
        due.is("24 SIGNS behind a", x.takes(4, 1, 0, 0), -9);
        due.is("24 SIGNS behind bababa, but 19 behind babab", x.takes(4, 6, 273, 0), 1);
        due.is("behind bababb", x.takes(4, 6, 274, 0), 0);
        due.is("behind baba and aa", x.takes(4, 6, 270, 0), -9);
        due.is("the empty word", x.takes(4, 0, 0, 0), 1);
    }

    /** "if a REST behind some of its first LETTERS": also where the REST behind all has few SIGNS again. */
    private static void takesOnTheWay() {
        Letterpeel x = Build.of("[!(!b.![a])]", "[!(!b+![!b])]", HEAVY);
        due.is("20 SIGNS behind a", x.restText(0, 1, 0).length() > 20, true);
        due.is("few behind ab", x.restText(0, 2, 1), "0");
        due.is("takes ab", x.takes(0, 2, 1, 0), 0);
        due.is("21 SIGNS behind b", x.takes(1, 1, 1, 0), -9);
        due.is("few behind ba", x.takes(1, 2, 3, 0), -9);
        due.is("?", x.restText(1, 2, 3), "?");
        due.is("by MEANING", x.takes(1, 2, 3, 1), 0);
        due.is("too many behind the first of six", x.takes(2, 6, 0, 0), -9);
        due.is("too many behind the fifth of six", x.takes(2, 6, 270, 0) + x.restText(2, 6, 270), "-9?");
    }

    /** Promise 21: "?" if it, or one behind some of the first LETTERS, would have more than 20 SIGNS" */
    private static void restTextUpTo20Signs() {
        Letterpeel x = Build.of("[([!b].!b)]", "[(!a.[!c])]", "[![!c]]", "[(!b.c)]", HEAVY);
        due.is("20 SIGNS", Model.Tree.of(x.restText(0, 1, 1)).signs(), 20);
        due.is("21 SIGNS", x.restText(1, 1, 0), "?");
        due.is("20 SIGNS behind ac", Model.Tree.of(x.restText(2, 2, 2)).signs(), 20);
        due.is("21 SIGNS behind cb", x.restText(3, 2, 7), "?");
        due.is("behind baba", x.restText(4, 4, 30), "[([a].[b].[c].a)]");
        due.is("behind babab", x.restText(4, 5, 91), "([b].[c].a.[([a].[b].[c].a)])");
        due.is("behind bababa", x.restText(4, 6, 273), "[([a].[b].[c].a)]");
        due.is("behind babaa", x.restText(4, 5, 90), "?");
    }

    /** Promises 23 and 24: "if there is no REST k" */
    private static void nextAndRestAtBehindTheLast() {
        String[] texts = {"0", "1", "a", "(a.b)", "((!(c.!b).a).!b)"};
        int[] rests = {1, 2, 3, 4, 10};
        for (int i = 0; i < texts.length; i++) {
            Letterpeel x = Build.of(texts[i]);
            for (int k = 0; k < 10; k++) {
                due.is("restAt " + k, x.restAt(0, k).isEmpty(), k >= rests[i]);
                for (int letter = 0; letter < 3; letter++) {
                    int next = x.next(0, k, letter);
                    due.is("next " + k, next == -1, k >= rests[i]);
                    due.is("next " + k + " is a number of one", next < rests[i], true);
                    if (k < rests[i]) {
                        String way = Model.Tree.of(x.restAt(0, k)).rest("abc".charAt(letter)).text();
                        due.is("the REST " + k + " by " + letter, x.restAt(0, next), way);
                    }
                }
            }
        }
    }

    /** What was asked of a CELL with ten RESTS, or of a WIDE one, is not told of one with fewer. */
    private static void nextAndRestAtBehindOneOfMore() {
        for (String text : new String[] {"((!(c.!b).a).!b)", HEAVY, "(((![a].!b)+c).c)"}) {
            Letterpeel x = Build.of(text, "a", "0");
            for (int k = 0; k < 10; k++) {
                x.rests(0);
                due.is("restAt of NOTHING", x.restAt(2, k), k == 0 ? "0" : "");
                x.rests(0);
                due.is("next of NOTHING", x.next(2, k, k % 3), k == 0 ? 0 : -1);
                x.rests(0);
                due.is("restAt of a LETTER", x.restAt(1, k), k < 3 ? "a10".substring(k, k + 1) : "");
                x.rests(0);
                due.is("next of a LETTER", x.next(1, k, 0), k == 0 ? 1 : k < 3 ? 2 : -1);
                due.is("rests", x.rests(0), text.equals("((!(c.!b).a).!b)") ? 10 : -9);
                due.is("count", x.count(2, k) + x.count(1, k), k == 1 ? 1 : 0);
                due.is("word", x.word(1, 1, 0), 0);
            }
        }
    }

    /** Promise 25: "the first word that its EXPRESSION takes" */
    private static void firstOfFewAndMany() {
        String[] texts = {"1", "0", "!0", "!1", "(c+(b.a))", "((b.c)+(c.a))", "((c.a)+(a.c))",
            "((((((c.b).a).c).b).a).c)", "((((((b.b).b).b).b).b).b)", "(!1.(!1.!1))", "(a&b)"};
        String[] words = {"-", "none", "-", "a-", "c-", "bc-", "ac-", "cbacbac-", "bbbbbbb-", "aaa-", "none"};
        for (int i = 0; i < texts.length; i++) {
            due.is("first of " + texts[i], Build.of(texts[i]).first(0), words[i]);
        }
    }

    /** Promise 26: "length is not 0 to 12" */
    private static void countOfEachLength() {
        Letterpeel x = Build.of(ALL, "([!b].!b)", "[((a.b)+c)]", "!((a.!0)+1)");
        int power = 1;
        int before = 0;
        int here = 1;
        for (int length = 0; length <= 12; length++) {
            due.is("all words of LENGTH " + length, x.count(0, length), power);
            due.is("two with an ab or a c ahead", x.count(2, length), here);
            due.is("those that begin with b or c", x.count(3, length), length == 0 ? 0 : power / 3 * 2);
            power *= 3;
            int next = here + before;
            before = here;
            here = next;
        }
        due.is("3^12", x.count(0, 12), 531_441);
        due.is("a word of LENGTH 12", x.word(2, 12, x.count(2, 12) - 1), 531_440);
    }

    /** Promise 27: "length is not 0 to 3": also of one that is WIDE. */
    private static void listedOfEachLength() {
        Letterpeel x = Build.of(ALL, "0", HEAVY, "(((![a].!b)+c).c)");
        int power = 1;
        for (int length = 0; length <= 3; length++) {
            due.is("all", x.listed(0, length), power);
            due.is("none", x.listed(1, length), 0);
            power *= 3;
        }
        due.is("the WIDE one", x.listed(2, 0) + x.listed(2, 1), 2);
        due.is("the other WIDE one", x.listed(3, 1), Model.Tree.of("(((![a].!b)+c).c)").takes("c") ? 1 : 0);
    }

    /** Promise 28: "NONE, if there are not more than k" */
    private static void wordOfEachK() {
        Letterpeel x = Build.of("[((a.b)+c)]", ALL, "0", "1", HEAVY);
        for (int length = 0; length <= 12; length++) {
            int many = x.count(0, length);
            due.is("the last one of " + length, x.word(0, length, many - 1) >= 0, true);
            due.is("none behind it", x.word(0, length, many), -1);
            due.is("none far behind it", x.word(0, length, Integer.MAX_VALUE), -1);
            due.is("the first one of NOTHING", x.word(2, length, 0), -1);
            due.is("the first one of EMPTY", x.word(3, length, 0), length == 0 ? 0 : -1);
            due.is("the first one of all", x.word(1, length, 0), 0);
            due.is("the first one of a WIDE one", x.word(4, length, 0), -9);
            due.is("one far behind of a WIDE one", x.word(4, length, Integer.MAX_VALUE), -9);
        }
        for (int k = 0; k < 27; k++) {
            due.is("of all", x.word(1, 3, k), k);
        }
        due.is("of all, behind the last one", x.word(1, 3, 27), -1);
        due.is("abab, abcc, ccab", x.word(0, 4, 0) + " " + x.word(0, 4, 1) + " " + x.word(0, 4, 3), "10 17 73");
    }

    /** Promises 29 to 31: "if one of both is WIDE (also if they are one CELL)" */
    private static void twoOfWhichOneIsWide() {
        Letterpeel x = Build.of("a", HEAVY, "(((![a].!b)+c).c)", "((!(c.!b).a).!b)");
        int[][] pairs = {{0, 1}, {1, 0}, {1, 1}, {2, 2}, {1, 2}, {2, 0}, {3, 2}};
        for (int[] pair : pairs) {
            due.is("same", x.same(pair[0], pair[1]), -9);
            due.is("differ", x.differ(pair[0], pair[1]), "?");
            due.is("within", x.within(pair[0], pair[1]), -9);
        }
        due.is("none is WIDE", x.same(0, 3) + x.differ(0, 3) + x.within(0, 3) + x.within(3, 0), "0aa-10");
        due.is("one CELL", x.same(3, 3) + x.differ(3, 3) + x.within(3, 3), "1none1");
    }

    /** Promise 30: "the first word that just one of both takes" */
    private static void differTellsTheFirst() {
        String[] rows = {
            "1", "0", "-", "0", "0", "none", "a", "c", "a-", "(a+b)", "(a+c)", "b-",
            "((a.b).((a.((!1.a).a)).b))", "(((a.!b).b).(a&[1]))", "abaaaab-",
            "(a.!((b.a).(a.b)))", "(a.(!a.[a]))", "abaab-",
            "[(a.(a.(a.a)))]", "[(a.(a.a))]", "aaa-", "[(a.(b.c))]", "[((a.b).c)]", "none",
            "(c.c)", "(c.b)", "cb-", "[a]", "(1+((a.a)+a))", "aaa-"};
        for (int i = 0; i < rows.length; i += 3) {
            Letterpeel x = Build.of(rows[i], rows[i + 1]);
            due.is("differ of " + rows[i] + " and " + rows[i + 1], x.differ(0, 1), rows[i + 2]);
            due.is("differ of " + rows[i + 1] + " and " + rows[i], x.differ(1, 0), rows[i + 2]);
            due.is("same", x.same(0, 1), rows[i + 2].equals("none") ? 1 : 0);
        }
    }

    /** Promise 31: "(each word that it takes that one takes)" */
    private static void withinOneWay() {
        String[] rising = {"0", "1", "(1+a)", "[a]", "[(a+b)]", "!0"};
        Letterpeel x = Build.of(rising);
        for (int one = 0; one < 6; one++) {
            for (int other = 0; other < 6; other++) {
                due.is(rising[one] + " within " + rising[other], x.within(one, other), one <= other ? 1 : 0);
            }
        }
    }

    /** Promise 32: "all three are to be CELLS, also where the LAW does not name them" */
    private static void lawAsksForAllThreeCells() {
        Letterpeel x = Build.of("a", "b", "c", "!a", "(a.b)", "[c]");
        for (int law = 0; law < 20; law++) {
            int number = law;
            due.is("law " + law, x.law(law, 5, 0, 1), 1);
            due.noCell("x of law " + law, () -> x.law(number, 6, 0, 0));
            due.noCell("y of law " + law, () -> x.law(number, 0, 6, 0));
            due.noCell("z of law " + law, () -> x.law(number, 0, 0, 6));
            due.noCell("x below of law " + law, () -> x.law(number, -1, 0, 0));
            due.noCell("y below of law " + law, () -> x.law(number, 0, -1, 0));
            due.noCell("z below of law " + law, () -> x.law(number, 0, 0, -1));
        }
    }

    /** Promise 33: "the word of the LETTERS that the READER has, "-" behind it" */
    private static void readerOfNoneAndTwelve() {
        Letterpeel x = Build.of(ALL);
        x.open(0);
        StringBuilder word = new StringBuilder();
        for (int letters = 0; letters <= 12; letters++) {
            due.is("word of " + letters, x.reader(0), word + "-");
            due.is("REST behind " + letters, x.reader(1), "!0");
            if (letters < 12) {
                due.is("read", x.read(letters * letters % 3), 1);
                word.append("abc".charAt(letters * letters % 3));
            }
        }
    }

    /** Promise 34, each number at its least and at its greatest. */
    private static void houseAtItsEnds() {
        Letterpeel x = new Letterpeel();
        due.is("SIGNS of six NOTHINGS", x.house(3), 6);
        due.is("no CELL takes the empty word", x.house(5), 0);
        for (int cell = 0; cell < 6; cell++) {
            x.sign(cell, 1);
            due.is("CELLS that take the empty word", x.house(5), cell + 1);
            due.is("acts", x.house(0), cell + 1);
        }
        x.open(0);
        for (int letter = 1; letter <= 12; letter++) {
            x.read(0);
            due.is("LETTERS", x.house(4), letter);
        }
        x.read(0);
        due.is("LETTERS, one REFUSED", x.house(4), 12);
        due.is("REFUSED", x.house(1), 1);
        due.is("acts without it", x.house(0), 19);
        for (int letter = 11; letter >= 0; letter--) {
            x.back();
            due.is("LETTERS, taken back", x.house(4), letter);
        }
        Build.put(x, 0, "[[[[[[[[[[[[[a]]]]]]]]]]]]]");
        for (int cell = 1; cell < 6; cell++) {
            x.copy(0, cell);
        }
        due.is("SIGNS of six times 14", x.house(3), 84);
        due.is("all take the empty word", x.house(5), 6);
        due.is("knocks", x.house(2), 0);
    }

    /** Promise 35: "how often one knocked, with this" */
    private static void knocks() {
        Letterpeel x = new Letterpeel();
        due.is("none", x.house(2), 0);
        for (int knock = 1; knock <= 200; knock++) {
            due.is("knock", x.knock(), knock);
        }
        due.is("all", x.house(2), 200);
        due.is("no acts, none REFUSED", x.house(0) + x.house(1), 0);
    }

    /** Promise 36, where x is WIDE, has 14 SIGNS, is made PLAIN to one sign, and where the READER is full. */
    private static void soundAtTheBounds() {
        String[] texts = {"0", "1", "c", "!((((((a+a)+a)+a)+a)+a)+a)", "[[[[[[[[[[[[[a]]]]]]]]]]]]]", HEAVY,
            "(((![a].!b)+c).c)", "((((((a.b).c).a).b).c).!a)", "((((((1.1).1).1).1).1).!b)", "[(!a.[!c])]"};
        for (String text : texts) {
            Letterpeel x = Build.of(text);
            due.is("isSound with " + text, x.isSound(), true);
            x.open(0);
            for (int i = 0; i < 14; i++) {
                x.read(i % 3);
                due.is("isSound when " + x.reader(0) + " was read", x.isSound(), true);
            }
        }
    }

    /** The checksum by the words of promise 37; the CELLS are told by the face. */
    private static long digestOf(Letterpeel x, int rests, int words) {
        long d = 8028;
        for (int cell = 0; cell < 6; cell++) {
            d = d * 31 + x.signs(cell);
            String text = x.text(cell);
            for (int i = 0; i < text.length(); i++) {
                d = d * 31 + numberOf(text.charAt(i));
            }
            d = d * 31 + (x.empties(cell) ? 1 : 0);
        }
        d = (d * 31 + rests) * 31 + words;
        d = (d * 31 + x.house(4)) * 31 + x.reader(1).length();
        for (int what = 0; what <= 5; what++) {
            d = d * 31 + x.house(what);
        }
        return d * 31 + 1;
    }

    private static int numberOf(char sign) {
        int[] numbers = {33, 38, 40, 41, 43, 46, 48, 49, 91, 93, 97, 98, 99};
        return numbers["!&()+.01[]abc".indexOf(sign)];
    }

    /** Promise 37: "which wraps around as a 64-bit integer"; WIDE ones; the READER with 12 LETTERS. */
    private static void digestAtItsEnds() {
        Letterpeel x = new Letterpeel();
        due.is("a new one", x.digest(), digestOf(x, 1, 0));
        x = Build.of(HEAVY, "!((((((a.b)+c)&1).b)+a).0)", "[[[[[[[[[[[[[a]]]]]]]]]]]]]", "(1&[0])", "!0", "b");
        due.is("a WIDE one", x.digest(), digestOf(x, -9, -9));
        x.open(4);
        for (int i = 0; i < 13; i++) {
            x.read(i % 3);
            x.knock();
        }
        due.is("with 12 LETTERS", x.digest(), digestOf(x, -9, -9));
        x.swap(0, 4);
        due.is("with 81 words of LENGTH 4", x.digest(), digestOf(x, 1, 81));
        x = Build.of("[(([b].[c])&((a&a)+(b.c)))]");
        x.open(0);
        x.read(1);
        x.sign(0, 2);
        due.is("with a REST of 39 places", x.digest(), digestOf(x, 3, 0));
        long first = x.digest();
        due.is("once more", x.digest(), first);
        x.knock();
        due.is("a knock is in it", x.digest() == first, false);
    }
}
