/** Promises 14, 15, 16 and 33: the reader. */
public final class ReaderTest {
    private static final Due due = new Due();

    public static void main(String[] args) {
        open();
        read();
        readRefused();
        back();
        told();
        due.end();
    }

    private static void open() {
        Letterpeel x = Build.of("([b].[a])", "(a+b)", "((a.1)+0)");
        due.is("open of ([b].[a])", x.open(0), 1);
        due.is("open of (a+b)", x.open(1), 0);
        due.is("reader(1)", x.reader(1), "(a+b)");
        due.is("open makes PLAIN", x.open(2) + x.reader(1), "0a");
        due.is("the cell does not become PLAIN", x.text(2), "((a.1)+0)");
        x.open(0);
        x.read(0);
        x.sign(0, 4);
        due.is("it stays whatever becomes of the cell", x.reader(1), "[a]");
        x.back();
        due.is("it stays with no LETTER, too", x.reader(1), "([b].[a])");
        x.read(1);
        x.read(1);
        int acts = x.house(0);
        due.is("open anew", x.open(0), 0);
        due.is("no LETTER is read", x.reader(0) + x.house(4), "-0");
        due.is("open is an act", x.house(0), acts + 1);
        due.is("nothing to take back", x.back(), -9);
        due.noCell("open(6)", () -> x.open(6));
        due.noCell("open(-1)", () -> x.open(-1));
    }

    private static void read() {
        Letterpeel x = Build.of("([(a+b)].(a.b))");
        x.open(0);
        int[] letters = {0, 1, 0, 0, 1, 2, 1};
        int[] taken = {0, 1, 0, 0, 1, 0, 0};
        for (int i = 0; i < letters.length; i++) {
            due.is("read " + i, x.read(letters[i]), taken[i]);
            due.is("house(4)", x.house(4), i + 1);
        }
        due.is("reader(0)", x.reader(0), "abaabcb-");
        due.is("reader(1)", x.reader(1), "0");
        due.noArgument("read(-1)", () -> x.read(-1));
        due.noArgument("read(3)", () -> x.read(3));
        due.is("exceptions change nothing", x.reader(0), "abaabcb-");
    }

    private static void readRefused() {
        Letterpeel x = Build.of("[(a+b)]");
        x.open(0);
        for (int i = 0; i < 12; i++) {
            due.is("read of 12", x.read(i % 2), 1);
        }
        int acts = x.house(0);
        due.is("the 13th", x.read(0), -9);
        due.is("refused", x.house(1), 1);
        due.is("no act", x.house(0), acts);
        due.is("12 LETTERS", x.reader(0), "abababababab-");
        due.noArgument("the exception is ahead of REFUSED", () -> x.read(3));
        due.is("back", x.back(), 11);
        due.is("read on", x.read(2), 0);
        due.is("reader(0)", x.reader(0), "abababababac-");
        due.is("the 13th again", x.read(0), -9);
        due.is("the REST behind 12", x.reader(1), "0");
        due.is("back", x.back(), 11);
        due.is("the REST behind 11", x.reader(1), "[(a+b)]");

        Letterpeel y = Build.of("[((([a].[b]).[c]).a)]");
        y.open(0);
        due.is("24 SIGNS", y.read(0), -9);
        due.is("nothing changes", y.reader(0) + y.reader(1), "-[([a].[b].[c].a)]");
        due.is("19 SIGNS", y.read(1), 0);
        due.is("reader(1)", y.reader(1), "([b].[c].a.[([a].[b].[c].a)])");
        due.is("read on", y.read(0), 1);
        due.is("refused", y.house(1), 1);

        Letterpeel z = Build.of("![(c+!c)]");
        z.open(0);
        z.read(2);
        due.is("20 SIGNS", z.read(2), 0);
        due.is("reader(1)", z.reader(1), "!((!0.[(!c+c)])+((!1+1).[(!c+c)]))");
    }

    private static void back() {
        Letterpeel x = Build.of("(a.(b.c))");
        due.is("back of a new one", x.back(), -9);
        x.open(0);
        due.is("back of one just opened", x.back(), -9);
        x.read(0);
        x.read(1);
        due.is("reader(1)", x.reader(1), "c");
        due.is("back", x.back(), 1);
        due.is("reader", x.reader(0) + x.reader(1), "a-(b.c)");
        due.is("back", x.back(), 0);
        due.is("reader", x.reader(0) + x.reader(1), "-(a.b.c)");
        int acts = x.house(0);
        due.is("back", x.back(), -9);
        due.is("refused", x.house(1), 3);
        due.is("no act", x.house(0), acts);
    }

    private static void told() {
        Letterpeel x = new Letterpeel();
        due.is("reads from NOTHING", x.read(2), 0);
        due.is("reader(0)", x.reader(0), "c-");
        due.is("reader(1)", x.reader(1), "0");
        due.noArgument("reader(2)", () -> x.reader(2));
        due.noArgument("reader(-1)", () -> x.reader(-1));
    }
}
