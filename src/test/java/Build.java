/** Puts an expression into a cell by its TEXT, with acts alone; joins have two PARTS there. */
final class Build {
    private Build() {
    }

    /** Uses the one or two cells behind the one that gets it, too, if the TEXT has joins. */
    static void put(Letterpeel x, int cell, String text) {
        build(x, cell, Model.Tree.of(text));
        if (!x.text(cell).equals(text)) {
            throw new IllegalStateException("built " + x.text(cell) + " for " + text);
        }
    }

    /** A new object with these expressions in its cells, from the last one to the first one. */
    static Letterpeel of(String... texts) {
        Letterpeel x = new Letterpeel();
        for (int i = texts.length - 1; i >= 0; i--) {
            String[] later = new String[6];
            for (int k = i + 1; k < 6; k++) {
                later[k] = x.text(k);
            }
            put(x, i, texts[i]);
            for (int k = i + 1; k < 6; k++) {
                if (!x.text(k).equals(later[k])) {
                    put(x, k, later[k]);
                }
            }
        }
        return x;
    }

    private static void build(Letterpeel x, int cell, Model.Tree tree) {
        if (tree.joins()) {
            join(x, cell, tree);
            return;
        }
        if (tree.parts().isEmpty()) {
            x.sign(cell, "01abc".indexOf(tree.kind()));
            return;
        }
        build(x, cell, tree.parts().get(0));
        if (tree.kind() == '!') {
            x.not(cell, cell);
        } else {
            x.again(cell, cell);
        }
    }

    /** The PART that needs more cells is built first, so that three are enough for 14 SIGNS. */
    private static void join(Letterpeel x, int cell, Model.Tree tree) {
        Model.Tree one = tree.parts().get(0);
        Model.Tree other = tree.parts().get(1);
        boolean turned = cellsFor(other) > cellsFor(one);
        build(x, cell, turned ? other : one);
        build(x, cell + 1, turned ? one : other);
        int first = turned ? cell + 1 : cell;
        int second = turned ? cell : cell + 1;
        switch (tree.kind()) {
            case '+' -> x.or(first, second, cell);
            case '&' -> x.and(first, second, cell);
            default -> x.behind(first, second, cell);
        }
    }

    private static int cellsFor(Model.Tree tree) {
        int most = 1;
        for (Model.Tree part : tree.parts()) {
            int cells = cellsFor(part);
            most = tree.joins() && cells == most && part != tree.parts().get(0) ? most + 1 : Math.max(most, cells);
        }
        return most;
    }
}
