/** Promises 1 to 13: a new object, and the acts on the cells. */
public final class CellsTest {
    private static final Due due = new Due();

    public static void main(String[] args) {
        newObject();
        sign();
        joins();
        not();
        again();
        copy();
        swap();
        turn();
        letter();
        plain();
        plainOrder();
        rest();
        due.end();
    }

    private static void newObject() {
        Letterpeel x = new Letterpeel();
        for (int i = 0; i < 6; i++) {
            due.is("new: text(" + i + ")", x.text(i), "0");
        }
        due.is("new: reader(0)", x.reader(0), "-");
        due.is("new: reader(1)", x.reader(1), "0");
        due.is("new: read(0)", x.read(0), 0);
        x = new Letterpeel();
        int[] house = {0, 0, 0, 6, 0, 0};
        for (int i = 0; i < 6; i++) {
            due.is("new: house(" + i + ")", x.house(i), house[i]);
        }
    }

    private static void sign() {
        Letterpeel x = new Letterpeel();
        String[] signs = {"0", "1", "a", "b", "c"};
        for (int i = 0; i < 5; i++) {
            due.is("sign(5, " + i + ")", x.sign(5, i), 1);
            due.is("text(5)", x.text(5), signs[i]);
        }
        Build.put(x, 0, "([a]+!b)");
        due.is("sign over 5 SIGNS", x.sign(0, 4), 5);
        due.is("text(0)", x.text(0), "c");
        due.noCell("sign(-1, 0)", () -> x.sign(-1, 0));
        due.noCell("sign(6, 9)", () -> x.sign(6, 9));
        due.noArgument("sign(0, -1)", () -> x.sign(0, -1));
        due.noArgument("sign(0, 5)", () -> x.sign(0, 5));
        due.is("text(0) after exceptions", x.text(0), "c");
    }

    private interface Join {
        int call(Letterpeel x, int one, int other, int into);
    }

    private static void joins() {
        join("or", '+', Letterpeel::or);
        join("and", '&', Letterpeel::and);
        join("behind", '.', Letterpeel::behind);
    }

    private static void join(String name, char sign, Join join) {
        Letterpeel x = Build.of("a", "b", "[c]");
        due.is(name + " into a third", join.call(x, 0, 1, 3), 3);
        due.is(name + " text", x.text(3), "(a" + sign + "b)");
        due.is(name + " the first cell stays", x.text(0), "a");
        due.is(name + " of one is a PART", join.call(x, 3, 2, 3), 6);
        due.is(name + " nests to the left", x.text(3), "((a" + sign + "b)" + sign + "[c])");
        due.is(name + " into the second one", join.call(x, 1, 3, 3), 8);
        due.is(name + " nests to the right", x.text(3), "(b" + sign + "((a" + sign + "b)" + sign + "[c]))");
        due.is(name + " with itself", join.call(x, 2, 2, 2), 5);
        due.is(name + " twice the same", x.text(2), "([c]" + sign + "[c])");
        due.is(name + " of 14", join.call(x, 3, 2, 4), 14);
        x.not(2, 2);
        int acts = x.house(0);
        due.is(name + " of 15", join.call(x, 3, 2, 5), -9);
        due.is(name + " refused: acts", x.house(0), acts);
        due.is(name + " refused: counted", x.house(1), 1);
        due.is(name + " refused: nothing changes", x.text(5), "0");
        due.noCell(name + "(6, 0, 0)", () -> join.call(x, 6, 0, 0));
        due.noCell(name + "(0, -1, 0)", () -> join.call(x, 0, -1, 0));
        due.noCell(name + "(0, 0, 6)", () -> join.call(x, 0, 0, 6));
        due.noCell(name + "(3, 2, 6) ahead of REFUSED", () -> join.call(x, 3, 2, 6));
        due.is(name + " exceptions are not counted", x.house(0) + x.house(1), acts + 1);
    }

    private static void not() {
        Letterpeel x = Build.of("a");
        due.is("not(0, 1)", x.not(0, 1), 2);
        due.is("text(1)", x.text(1), "!a");
        due.is("text(0)", x.text(0), "a");
        due.is("not(1, 1)", x.not(1, 1), 3);
        due.is("not of a NOT stays", x.text(1), "!!a");
        for (int signs = 4; signs <= 14; signs++) {
            due.is("not to " + signs, x.not(1, 1), signs);
        }
        due.is("not of 14", x.not(1, 1), -9);
        due.is("not of 14 into another", x.not(1, 0), -9);
        due.is("nothing changes", x.text(0) + x.text(1), "a!!!!!!!!!!!!!a");
        due.is("refused", x.house(1), 2);
        due.noCell("not(-1, 0)", () -> x.not(-1, 0));
        due.noCell("not(0, 6)", () -> x.not(0, 6));
        due.noCell("not(1, 6)", () -> x.not(1, 6));
    }

    private static void again() {
        Letterpeel x = Build.of("(a+b)");
        due.is("again(0, 1)", x.again(0, 1), 4);
        due.is("text(1)", x.text(1), "[(a+b)]");
        due.is("again(1, 1)", x.again(1, 1), 5);
        due.is("again of an AGAIN stays", x.text(1), "[[(a+b)]]");
        for (int signs = 6; signs <= 14; signs++) {
            due.is("again to " + signs, x.again(1, 1), signs);
        }
        due.is("text of 14", x.text(1), "[[[[[[[[[[[(a+b)]]]]]]]]]]]");
        due.is("again of 14", x.again(1, 0), -9);
        due.is("nothing changes", x.text(0), "(a+b)");
        due.is("refused", x.house(1), 1);
        due.noCell("again(6, 0)", () -> x.again(6, 0));
        due.noCell("again(0, -1)", () -> x.again(0, -1));
    }

    private static void copy() {
        Letterpeel x = Build.of("(a.b)", "c");
        due.is("copy(0, 1)", x.copy(0, 1), 3);
        due.is("text(1)", x.text(1), "(a.b)");
        due.is("copy(0, 0)", x.copy(0, 0), 3);
        due.is("text(0)", x.text(0), "(a.b)");
        x.sign(0, 1);
        due.is("the copy is its own", x.text(1), "(a.b)");
        due.noCell("copy(6, 0)", () -> x.copy(6, 0));
        due.noCell("copy(0, 6)", () -> x.copy(0, 6));
    }

    private static void swap() {
        Letterpeel x = Build.of("(a.b)", "c", "c");
        due.is("swap(0, 1)", x.swap(0, 1), 1);
        due.is("texts", x.text(0) + " " + x.text(1), "c (a.b)");
        due.is("swap of like TEXTS", x.swap(0, 2), 0);
        int acts = x.house(0);
        due.is("swap(1, 1)", x.swap(1, 1), 0);
        due.is("text(1)", x.text(1), "(a.b)");
        due.is("swap(1, 1) is an act", x.house(0), acts + 1);
        due.noCell("swap(-1, 0)", () -> x.swap(-1, 0));
        due.noCell("swap(0, 6)", () -> x.swap(0, 6));
    }

    private static void turn(String from, String to) {
        Letterpeel x = Build.of(from);
        due.is("turn of " + from, x.turn(0), from.equals(to) ? 0 : 1);
        due.is("TURNED " + from, x.text(0), to);
        due.is("turn is an act", x.turn(0) + x.text(0), (from.equals(to) ? 0 : 1) + from);
    }

    private static void turn() {
        turn("a", "a");
        turn("(a.b)", "(b.a)");
        turn("(a.a)", "(a.a)");
        turn("(a+b)", "(a+b)");
        turn("(a&b)", "(a&b)");
        turn("(a.(b.c))", "((c.b).a)");
        turn("![(a.!b)]", "![(!b.a)]");
        turn("((a.b)+[(b.c)])", "((b.a)+[(c.b)])");
        turn("(!(a.b).[(c&(b.a))])", "([(c&(a.b))].!(b.a))");
        turn("(!!a.[!b])", "([!b].!!a)");
        Letterpeel x = Build.of("((a.b).(!b.[c]))");
        x.plain(0);
        int acts = x.house(0);
        due.is("turn of (a.b.!b.[c])", x.turn(0), 1);
        due.is("TURNED row", x.text(0), "([c].!b.b.a)");
        due.is("turn counts", x.house(0), acts + 1);
        due.noCell("turn(6)", () -> x.turn(6));
        due.noCell("turn(-1)", () -> x.turn(-1));
    }

    private static void letter() {
        String[] to = {"(a.[(b+!c)])", "(a.[(c+!b)])", "(b.[(a+!c)])", "(b.[(c+!a)])", "(c.[(a+!b)])", "(c.[(b+!a)])"};
        for (int way = 0; way < 6; way++) {
            Letterpeel x = Build.of(to[0]);
            due.is("letter(0, " + way + ")", x.letter(0, way), way == 0 ? 0 : 1);
            due.is("LETTERED " + way, x.text(0), to[way]);
        }
        Letterpeel x = Build.of("(1+(0.b))");
        int acts = x.house(0);
        due.is("letter without a change", x.letter(0, 5), 0);
        due.is("signs that are no LETTERS stay", x.text(0), "(1+(0.b))");
        due.is("it is an act all the same", x.house(0), acts + 1);
        due.noCell("letter(6, 0)", () -> x.letter(6, 0));
        due.noCell("letter(-1, 6)", () -> x.letter(-1, 6));
        due.noArgument("letter(0, 6)", () -> x.letter(0, 6));
        due.noArgument("letter(0, -1)", () -> x.letter(0, -1));
    }

    private static void plain(String from, String to) {
        Letterpeel x = Build.of(from);
        int signs = 0;
        for (char sign : to.toCharArray()) {
            signs += "()]".indexOf(sign) < 0 ? 1 : 0;
        }
        int acts = x.house(0);
        due.is("plain of " + from, x.plain(0), signs);
        due.is("PLAIN " + from, x.text(0), to);
        x.plain(0);
        due.is("PLAIN again " + to, x.text(0), to);
        due.is("plain is an act", x.house(0), acts + 2);
    }

    private static void plain() {
        String[] rules = {
            "0", "0", "1", "1", "b", "b", "!0", "!0", "!1", "!1", "!!a", "a", "!!!a", "!a", "!!0", "0",
            "[0]", "1", "[1]", "1", "[[a]]", "[a]", "[[[a]]]", "[a]", "[!0]", "[!0]", "[!!1]", "1", "![[a]]", "![a]",
            "(a.1)", "a", "(1.a)", "a", "(1.1)", "1", "(a.0)", "0", "(0.1)", "0", "(a.[0])", "a", "(b.a)", "(b.a)",
            "(a.(b.c))", "(a.b.c)", "((a.b).(b.a))", "(a.b.b.a)", "(a.(1.b))", "(a.b)", "((a.b).(b.0))", "0",
            "(!0.!0)", "(!0.!0)", "(a.a)", "(a.a)",
            "(a+0)", "a", "(0+0)", "0", "(a+!0)", "!0", "(!0+0)", "!0", "(a+a)", "a", "(b+a)", "(a+b)",
            "((c+b)+a)", "(a+b+c)", "((b+a)+(a+b))", "(a+b)", "(c+(a+!0))", "!0", "((a+0)+a)", "a", "(1+1)", "1",
            "(a&!0)", "a", "(!0&!0)", "!0", "(a&0)", "0", "(0&!0)", "0", "(a&a)", "a", "(b&a)", "(a&b)",
            "((c&b)&a)", "(a&b&c)", "((b&a)&(a&b))", "(a&b)", "(c&(a&0))", "0", "(1&0)", "0", "(1&!1)", "(!1&1)",
            "((a&b)+(b&a))", "(a&b)", "((a+b)&(b+a))", "(a+b)", "((a.b)+(a.(1.b)))", "(a.b)",
            "(a+!(b+!0))", "a", "[(0+(1.1))]", "1", "!(a&(b.0))", "!0", "(a.((b+0)+0))", "(a.b)"};
        for (int i = 0; i < rules.length; i += 2) {
            plain(rules[i], rules[i + 1]);
        }
        Letterpeel x = new Letterpeel();
        due.noCell("plain(6)", () -> x.plain(6));
        due.noCell("plain(-1)", () -> x.plain(-1));
    }

    private static void plainOrder() {
        String[] order = {
            "((((a+[a])+1)+(a.b))+!a)", "(!a+(a.b)+1+[a]+a)",
            "((((a&[a])&1)&(a.b))&!a)", "(!a&(a.b)&1&[a]&a)",
            "((a.b)+(a&b))", "((a&b)+(a.b))", "((a.b)&(a+b))", "((a+b)&(a.b))",
            "((a.(b.c))+(a.b))", "((a.b)+(a.b.c))", "((a&b)+(a&(b&c)))", "((a&b&c)+(a&b))",
            "((a+(b+c))&(a+b))", "((a+b)&(a+b+c))", "(!b+!a)", "(!a+!b)", "([b]+[a])", "([a]+[b])",
            "([(a.b)]+[(a+b)])", "([(a+b)]+[(a.b)])", "(!(a.b)+!a)", "(!(a.b)+!a)", "((1.c)+(b+[0]))", "(1+b+c)"};
        for (int i = 0; i < order.length; i += 2) {
            plain(order[i], order[i + 1]);
        }
    }

    private static void rest(String from, int letter, String to) {
        Letterpeel x = Build.of(from);
        due.is("rest of " + from + " by " + letter, x.rest(0, letter, 5), x.signs(5));
        due.is("REST of " + from + " by " + letter, x.text(5), to);
        due.is("the cell stays", x.text(0), from);
    }

    private static void rest() {
        rest("0", 0, "0");
        rest("1", 1, "0");
        rest("b", 1, "1");
        rest("b", 0, "0");
        rest("!a", 0, "!1");
        rest("!a", 1, "!0");
        rest("!!a", 0, "1");
        rest("[a]", 0, "[a]");
        rest("[(a.b)]", 0, "(b.[(a.b)])");
        rest("[(a.b)]", 2, "0");
        rest("(a+(a.c))", 0, "(1+c)");
        rest("(a+b)", 2, "0");
        rest("([a]&[(a+b)])", 0, "([(a+b)]&[a])");
        rest("(!b&a)", 0, "1");
        rest("(a.b)", 0, "b");
        rest("(a.b)", 1, "0");
        rest("([a].b)", 0, "([a].b)");
        rest("([a].b)", 1, "1");
        rest("([a].([b].c))", 1, "([b].c)");
        rest("([a].([a].c))", 0, "(([a].[a].c)+([a].c))");
        rest("(1.(a.b))", 0, "b");
        rest("(([(a+b)].a).b)", 0, "(([(a+b)].a.b)+b)");
        rest("(!a.a)", 0, "((!1.a)+1)");
        Letterpeel x = Build.of("[((([a].[b]).[c]).a)]", "b");
        due.is("rest of 24 SIGNS", x.rest(0, 0, 1), -9);
        due.is("nothing changes", x.text(1), "b");
        due.is("refused", x.house(1), 1);
        due.is("rest of 19 SIGNS", x.rest(0, 1, 1), -9);
        due.noArgument("rest(0, 3, 1)", () -> x.rest(0, 3, 1));
        due.noArgument("rest(0, -1, 1)", () -> x.rest(0, -1, 1));
        due.noCell("rest(6, 3, 1)", () -> x.rest(6, 3, 1));
        due.noCell("rest(0, 3, -1)", () -> x.rest(0, 3, -1));
        Letterpeel y = Build.of("([b].(a.(b.c)))");
        due.is("rest into its own cell", y.rest(0, 0, 0), 3);
        due.is("text", y.text(0), "(b.c)");
        Letterpeel z = Build.of("([(a.b)].(a.[(a.b)]))");
        int signs = z.rest(0, 0, 1);
        due.is("REST of more than 14 SIGNS", signs, -9);
        Letterpeel w = Build.of("[(a.(b.(c.(a.b))))]");
        due.is("(b.c.a.b.[(a.b.c.a.b)])", w.rest(0, 0, 0), -9);
        Letterpeel v = Build.of("[(a.(b.!c))]");
        due.is("(b.!c.[(a.b.!c)])", v.rest(0, 0, 0), 12);
        Letterpeel u = Build.of("[(a.(b.!!!c))]");
        due.is("the PLAIN one", u.rest(0, 0, 0), 12);
        Letterpeel t = Build.of("[(a.(b.[!c]))]");
        due.is("(b.[!c].[(a.b.[!c])])", t.rest(0, 0, 0), 14);
        Letterpeel s = Build.of("[(a.(b.![!c]))]");
        due.is("15 SIGNS and more", s.rest(0, 0, 0), -9);
    }
}
