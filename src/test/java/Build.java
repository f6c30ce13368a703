/** Puts an expression into a cell by its TEXT, with acts alone; joins have two PARTS there. */
final class Build {
    private final Letterpeel x;
    private final String text;
    private int at;

    private Build(Letterpeel x, String text) {
        this.x = x;
        this.text = text;
    }

    /** Uses the cells behind the one that gets it, too, as far as the TEXT nests to the right. */
    static void put(Letterpeel x, int cell, String text) {
        new Build(x, text).part(cell);
        if (!x.text(cell).equals(text)) {
            throw new IllegalStateException("built " + x.text(cell) + " for " + text);
        }
    }

    /** A new object with these expressions in its cells, from the last one to the first one. */
    static Letterpeel of(String... texts) {
        Letterpeel x = new Letterpeel();
        for (int i = texts.length - 1; i >= 0; i--) {
            String[] later = new String[6];
            for (int k = i + 1; k < 6; k++) {
                later[k] = x.text(k);
            }
            put(x, i, texts[i]);
            for (int k = i + 1; k < 6; k++) {
                if (!x.text(k).equals(later[k])) {
                    put(x, k, later[k]);
                }
            }
        }
        return x;
    }

    private void part(int cell) {
        char sign = text.charAt(at++);
        switch (sign) {
            case '!' -> {
                part(cell);
                x.not(cell, cell);
            }
            case '[' -> {
                part(cell);
                at++;
                x.again(cell, cell);
            }
            case '(' -> joined(cell);
            default -> x.sign(cell, "01abc".indexOf(sign));
        }
    }

    private void joined(int cell) {
        part(cell);
        char join = text.charAt(at++);
        part(cell + 1);
        at++;
        switch (join) {
            case '+' -> x.or(cell, cell + 1, cell);
            case '&' -> x.and(cell, cell + 1, cell);
            default -> x.behind(cell, cell + 1, cell);
        }
    }
}
