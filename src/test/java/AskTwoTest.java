/** Promises 29 to 32: what is asked of two expressions, and of laws. */
public final class AskTwoTest {
    private static final Due due = new Due();
    private static final String HEAVY = "[((([a].[b]).[c]).a)]";

    public static void main(String[] args) {
        compare("[a]", "(1+(a.[a]))", 1, "none", 1, 1);
        compare("a", "b", 0, "a-", 0, 0);
        compare("a", "(a+b)", 0, "b-", 1, 0);
        compare("0", "1", 0, "-", 1, 0);
        compare("[(a+b)]", "[(a.b)]", 0, "a-", 0, 1);
        compare("[(a.b)]", "[((a.b)+(a.(b.c)))]", 0, "abc-", 1, 0);
        compare("!0", "[(a+(b+c))]", 1, "none", 1, 1);
        compare("!(a.(b.(c.a)))", "!0", 0, "abca-", 1, 0);
        compare("([a].[a])", "[a]", 1, "none", 1, 1);
        compare("((a.b)&(b.a))", "0", 1, "none", 1, 1);
        compare("[(a.a)]", "[(a.(a.a))]", 0, "aa-", 0, 0);
        compare("((c.a)+(b.c))", "(c.a)", 0, "bc-", 0, 1);
        compare("[(a.b)]", "[(((a.b).a).b)]", 0, "ab-", 0, 1);
        compare(HEAVY, "a", -9, "?", -9, -9);
        compare("(((![c].!b)+a).c)", "a", -9, "?", -9, -9);
        oneCell();
        wrongCells();
        laws();
        lawsWide();
        wrongLaws();
        due.end();
    }

    private static void compare(String one, String other, int same, String differ, int within, int without) {
        Letterpeel x = Build.of(one, other);
        String pair = "(" + one + ", " + other + ")";
        due.is("same" + pair, x.same(0, 1), same);
        due.is("same" + pair + " the other way", x.same(1, 0), same);
        due.is("differ" + pair, x.differ(0, 1), differ);
        due.is("differ" + pair + " the other way", x.differ(1, 0), differ);
        due.is("within" + pair, x.within(0, 1), within);
        due.is("within" + pair + " the other way", x.within(1, 0), without);
    }

    private static void oneCell() {
        Letterpeel x = Build.of("(a.[b])", HEAVY);
        due.is("same(0, 0)", x.same(0, 0), 1);
        due.is("differ(0, 0)", x.differ(0, 0), "none");
        due.is("within(0, 0)", x.within(0, 0), 1);
        due.is("same(1, 1)", x.same(1, 1), -9);
        due.is("differ(1, 1)", x.differ(1, 1), "?");
        due.is("within(1, 1)", x.within(1, 1), -9);
    }

    private static void wrongCells() {
        Letterpeel x = new Letterpeel();
        due.noCell("same(6, 0)", () -> x.same(6, 0));
        due.noCell("same(0, -1)", () -> x.same(0, -1));
        due.noCell("differ(6, 0)", () -> x.differ(6, 0));
        due.noCell("differ(0, -1)", () -> x.differ(0, -1));
        due.noCell("within(6, 0)", () -> x.within(6, 0));
        due.noCell("within(0, -1)", () -> x.within(0, -1));
    }

    private static void laws() {
        Letterpeel x = Build.of("a", "b", "c", "[a]", "!b", "1");
        Letterpeel y = Build.of("(a.b)", "0", "!0");
        for (int law = 0; law < 20; law++) {
            due.is("law " + law + " of a, b, c", x.law(law, 0, 1, 2), 1);
            due.is("law " + law + " of c, c, c", x.law(law, 2, 2, 2), 1);
            due.is("law " + law + " of a, 1, b", x.law(law, 0, 5, 1), 1);
            due.is("law " + law + " of (a.b), 0, !0", y.law(law, 0, 1, 2), 1);
        }
    }

    /**
     * Where a side is WIDE tells which sides were asked of: of each law, of x, y and z
     * as the Model lays them out.
     */
    private static void lawsWide() {
        String[][] rows = {
            {"[(a.b)]", "(b.a)", "!c"}, {"![a]", "[(b.c)]", "(a+b)"}, {"(a.(b.c))", "![b]", "(c.a)"},
            {HEAVY, "a", "b"}, {"a", HEAVY, "b"}, {"a", "b", HEAVY}, {"[(a+b)]", "[!c]", "a"},
            {"a", "(b.(c.b))", "[(a.a)]"}};
        int wide = 0;
        for (String[] row : rows) {
            Letterpeel x = Build.of(row[0], row[1], row[2]);
            for (int law = 0; law < 20; law++) {
                Model model = new Model();
                int[] cells = copyInto(model, row);
                int answer = model.law(law, cells[0], cells[1], cells[2]);
                due.is("law " + law + " of " + String.join(", ", row), x.law(law, 0, 1, 2), answer);
                wide += answer == -9 ? 1 : 0;
            }
        }
        due.is("some are WIDE and some are not", wide > 20 && wide < 140, true);
        Letterpeel x = Build.of("a", "b", HEAVY);
        due.is("law 0 does not name z", x.law(0, 0, 1, 2), 1);
        due.is("law 2 names z", x.law(2, 0, 1, 2), -9);
        due.is("law 8 of x, y", x.law(8, 0, 2, 1), -9);
        due.is("law 8 of x", x.law(8, 2, 0, 0), -9);
        due.is("law 11 names x alone", x.law(11, 0, 2, 2), 1);
    }

    private static int[] copyInto(Model model, String[] row) {
        for (int i = 0; i < row.length; i++) {
            model.become(i, row[i]);
        }
        return new int[] {0, 1, 2};
    }

    private static void wrongLaws() {
        Letterpeel x = new Letterpeel();
        due.noArgument("law(20, 0, 0, 0)", () -> x.law(20, 0, 0, 0));
        due.noArgument("law(-1, 0, 0, 0)", () -> x.law(-1, 0, 0, 0));
        due.noCell("law(20, 6, 0, 0)", () -> x.law(20, 6, 0, 0));
        due.noCell("law(0, 0, -1, 0)", () -> x.law(0, 0, -1, 0));
        due.noCell("law(0, 0, 0, 6)", () -> x.law(0, 0, 0, 6));
        due.noCell("law(8, 0, 0, 6), z not named", () -> x.law(8, 0, 0, 6));
        due.noCell("law(16, 0, 6, 0), y not named", () -> x.law(16, 0, 6, 0));
    }
}
