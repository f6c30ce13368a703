import java.util.ArrayDeque;
import java.util.ArrayList;
import java.util.Arrays;
import java.util.Collections;
import java.util.HashMap;
import java.util.HashSet;
import java.util.List;
import java.util.Map;
import java.util.Set;
import java.util.TreeSet;

/**
 * The document once more, word by word and with no thought of room or speed: trees of objects,
 * TEXTS as strings, MEANING by parting words. Random runs are held against it.
 */
final class Model {
    static final int REFUSED = -9;

    /** An EXPRESSION: kind is one of 0 1 a b c ! [ + & . */
    record Tree(char kind, List<Tree> parts) {
        static Tree leaf(char kind) {
            return new Tree(kind, List.of());
        }

        boolean joins() {
            return "+&.".indexOf(kind) >= 0;
        }

        String text() {
            if (kind == '!') {
                return "!" + parts.get(0).text();
            }
            if (kind == '[') {
                return "[" + parts.get(0).text() + "]";
            }
            if (!joins()) {
                return "" + kind;
            }
            List<String> texts = new ArrayList<>();
            for (Tree part : parts) {
                texts.add(part.text());
            }
            return "(" + String.join("" + kind, texts) + ")";
        }

        int signs() {
            int signs = joins() ? parts.size() - 1 : 1;
            for (Tree part : parts) {
                signs += part.signs();
            }
            return signs;
        }

        boolean takes(String word) {
            switch (kind) {
                case '0': return false;
                case '1': return word.isEmpty();
                case '!': return !parts.get(0).takes(word);
                case '[': return takesAgain(word);
                case '+': return parts.stream().anyMatch(part -> part.takes(word));
                case '&': return parts.stream().allMatch(part -> part.takes(word));
                case '.': return takesBehind(parts, word);
                default: return word.equals("" + kind);
            }
        }

        private boolean takesAgain(String word) {
            if (word.isEmpty()) {
                return true;
            }
            for (int i = 1; i <= word.length(); i++) {
                if (parts.get(0).takes(word.substring(0, i)) && takesAgain(word.substring(i))) {
                    return true;
                }
            }
            return false;
        }

        private static boolean takesBehind(List<Tree> parts, String word) {
            if (parts.isEmpty()) {
                return word.isEmpty();
            }
            for (int i = 0; i <= word.length(); i++) {
                if (parts.get(0).takes(word.substring(0, i))
                        && takesBehind(parts.subList(1, parts.size()), word.substring(i))) {
                    return true;
                }
            }
            return false;
        }

        Tree plain() {
            List<Tree> plains = new ArrayList<>();
            for (Tree part : parts) {
                plains.add(part.plain());
            }
            switch (kind) {
                case '!': return plains.get(0).kind == '!' ? plains.get(0).parts.get(0) : new Tree('!', plains);
                case '[':
                    if (plains.get(0).kind == '0' || plains.get(0).kind == '1') {
                        return leaf('1');
                    }
                    return plains.get(0).kind == '[' ? plains.get(0) : new Tree('[', plains);
                case '.': return plainBehind(plains);
                case '+': return plainSet('+', plains, "0", "!0");
                case '&': return plainSet('&', plains, "!0", "0");
                default: return this;
            }
        }

        private static List<Tree> opened(char kind, List<Tree> plains) {
            List<Tree> all = new ArrayList<>();
            for (Tree part : plains) {
                if (part.kind == kind) {
                    all.addAll(part.parts);
                } else {
                    all.add(part);
                }
            }
            return all;
        }

        private static Tree plainBehind(List<Tree> plains) {
            List<Tree> all = opened('.', plains);
            all.removeIf(part -> part.kind == '1');
            if (all.stream().anyMatch(part -> part.kind == '0')) {
                return leaf('0');
            }
            if (all.isEmpty()) {
                return leaf('1');
            }
            return all.size() == 1 ? all.get(0) : new Tree('.', all);
        }

        private static Tree plainSet(char kind, List<Tree> plains, String goes, String rules) {
            Set<String> texts = new TreeSet<>();
            for (Tree part : opened(kind, plains)) {
                texts.add(part.text());
            }
            texts.remove(goes);
            if (texts.contains(rules)) {
                return of(rules);
            }
            List<Tree> all = new ArrayList<>();
            for (String text : texts) {
                all.add(of(text));
            }
            if (all.isEmpty()) {
                return of(goes);
            }
            return all.size() == 1 ? all.get(0) : new Tree(kind, all);
        }

        /** Of a PLAIN one; made by the rules without a thought, and PLAIN only then. */
        Tree rest(char letter) {
            return raw(letter).plain();
        }

        private Tree raw(char letter) {
            List<Tree> raws = new ArrayList<>();
            for (Tree part : parts) {
                raws.add(part.raw(letter));
            }
            switch (kind) {
                case '0':
                case '1': return leaf('0');
                case '[': return new Tree('.', List.of(raws.get(0), this));
                case '!':
                case '+':
                case '&': return new Tree(kind, raws);
                case '.': return new Tree('+', rawBehind(raws));
                default: return leaf(kind == letter ? '1' : '0');
            }
        }

        private List<Tree> rawBehind(List<Tree> raws) {
            List<Tree> terms = new ArrayList<>();
            for (int i = 0; i < parts.size(); i++) {
                if (parts.subList(0, i).stream().allMatch(part -> part.takes(""))) {
                    List<Tree> term = new ArrayList<>();
                    term.add(raws.get(i));
                    term.addAll(parts.subList(i + 1, parts.size()));
                    terms.add(new Tree('.', term));
                }
            }
            return terms;
        }

        Tree turned() {
            List<Tree> all = new ArrayList<>();
            for (Tree part : parts) {
                all.add(part.turned());
            }
            if (kind == '.') {
                Collections.reverse(all);
            }
            return new Tree(kind, all);
        }

        Tree lettered(String letters) {
            List<Tree> all = new ArrayList<>();
            for (Tree part : parts) {
                all.add(part.lettered(letters));
            }
            return new Tree(kind >= 'a' && kind <= 'c' ? letters.charAt(kind - 'a') : kind, all);
        }

        static Tree of(String text) {
            int[] at = {0};
            return read(text, at);
        }

        private static Tree read(String text, int[] at) {
            char sign = text.charAt(at[0]++);
            if (sign == '!') {
                return new Tree('!', List.of(read(text, at)));
            }
            if (sign == '[') {
                Tree part = read(text, at);
                at[0]++;
                return new Tree('[', List.of(part));
            }
            if (sign != '(') {
                return leaf(sign);
            }
            List<Tree> all = new ArrayList<>();
            all.add(read(text, at));
            char join = text.charAt(at[0]);
            while (text.charAt(at[0]) == join) {
                at[0]++;
                all.add(read(text, at));
            }
            at[0]++;
            return new Tree(join, all);
        }
    }

    /** The RESTS; null in the place of a table that is WIDE. */
    static final class Table {
        final List<Tree> trees = new ArrayList<>();
        final List<int[]> nexts = new ArrayList<>();
        private final Map<String, Integer> numbers = new HashMap<>();

        static Table of(Tree start) {
            Table table = new Table();
            if (table.number(start.plain()) < 0) {
                return null;
            }
            for (int k = 0; k < table.trees.size(); k++) {
                int[] next = new int[3];
                table.nexts.add(next);
                for (int letter = 0; letter < 3; letter++) {
                    next[letter] = table.number(table.trees.get(k).rest((char) ('a' + letter)));
                    if (next[letter] < 0) {
                        return null;
                    }
                }
            }
            return table;
        }

        private int number(Tree tree) {
            String text = tree.text();
            if (numbers.containsKey(text)) {
                return numbers.get(text);
            }
            if (tree.signs() > 20 || trees.size() == 10) {
                return -1;
            }
            numbers.put(text, trees.size());
            trees.add(tree);
            return trees.size() - 1;
        }

        boolean takes(String word) {
            int k = 0;
            for (char letter : word.toCharArray()) {
                k = nexts.get(k)[letter - 'a'];
            }
            return trees.get(k).takes("");
        }

        int[] counts(int length) {
            int[] counts = new int[trees.size()];
            for (int k = 0; k < counts.length; k++) {
                counts[k] = trees.get(k).takes("") ? 1 : 0;
            }
            for (int i = 0; i < length; i++) {
                int[] longer = new int[counts.length];
                for (int k = 0; k < counts.length; k++) {
                    for (int next : nexts.get(k)) {
                        longer[k] += counts[next];
                    }
                }
                counts = longer;
            }
            return counts;
        }
    }

    private static final String[] LAWS = {
        "(x+y)=(y+x)", "(x&y)=(y&x)", "(x.(y+z))=((x.y)+(x.z))", "((x+y).z)=((x.z)+(y.z))",
        "!(x+y)=(!x&!y)", "!(x&y)=(!x+!y)", "(x&(y+z))=((x&y)+(x&z))", "(x+(y&z))=((x+y)&(x+z))",
        "(x+(x&y))=x", "(x&!x)=0", "(x+!x)=!0", "[x]=(1+(x.[x]))", "[(x+y)]=([x].[(y.[x])])",
        "[(x+y)]=[([x].[y])]", "(x.[(y.x)])=([(x.y)].x)", "([x].[x])=[x]", "[[x]]=[x]", "[(1+x)]=[x]",
        "((x.y).z)=(x.(y.z))", "[(x.y)]=(1+(x.([(y.x)].y)))"};
    private static final String[] WAYS = {"abc", "acb", "bac", "bca", "cab", "cba"};

    private final Tree[] cells = new Tree[6];
    private final List<Tree> held = new ArrayList<>();
    private String word = "";
    private int acts;
    private int refusals;
    private int knocks;

    Model() {
        Arrays.fill(cells, Tree.leaf('0'));
        held.add(Tree.leaf('0'));
    }

    void become(int cell, String text) {
        cells[cell] = Tree.of(text);
    }

    private static void cell(int... numbers) {
        for (int number : numbers) {
            if (number < 0 || number > 5) {
                throw new IndexOutOfBoundsException();
            }
        }
    }

    private static void argument(boolean holds) {
        if (!holds) {
            throw new IllegalArgumentException();
        }
    }

    private static boolean among(int value, int least, int most) {
        return value >= least && value <= most;
    }

    private int done(int answer) {
        acts++;
        return answer;
    }

    private int refused() {
        refusals++;
        return REFUSED;
    }

    private int get(Tree tree, int into) {
        if (tree.signs() > 14) {
            return refused();
        }
        cells[into] = tree;
        return done(tree.signs());
    }

    private int change(int cell, Tree tree) {
        boolean other = !tree.text().equals(cells[cell].text());
        cells[cell] = tree;
        return done(other ? 1 : 0);
    }

    static String wordOf(int length, int n) {
        StringBuilder word = new StringBuilder();
        for (int i = 0; i < length; i++) {
            word.insert(0, (char) ('a' + n % 3));
            n /= 3;
        }
        return word.toString();
    }

    private static int power(int length) {
        return (int) Math.round(Math.pow(3, length));
    }

    int sign(int cell, int which) {
        cell(cell);
        argument(among(which, 0, 4));
        int had = cells[cell].signs();
        cells[cell] = Tree.leaf("01abc".charAt(which));
        return done(had);
    }

    int or(int one, int other, int into) {
        return join('+', one, other, into);
    }

    int and(int one, int other, int into) {
        return join('&', one, other, into);
    }

    int behind(int one, int other, int into) {
        return join('.', one, other, into);
    }

    private int join(char kind, int one, int other, int into) {
        cell(one, other, into);
        return get(new Tree(kind, List.of(cells[one], cells[other])), into);
    }

    int not(int cell, int into) {
        cell(cell, into);
        return get(new Tree('!', List.of(cells[cell])), into);
    }

    int again(int cell, int into) {
        cell(cell, into);
        return get(new Tree('[', List.of(cells[cell])), into);
    }

    int copy(int cell, int into) {
        cell(cell, into);
        return get(cells[cell], into);
    }

    int swap(int cell, int other) {
        cell(cell, other);
        Tree tree = cells[other];
        cells[other] = cells[cell];
        return change(cell, tree);
    }

    int turn(int cell) {
        cell(cell);
        return change(cell, cells[cell].turned());
    }

    int letter(int cell, int way) {
        cell(cell);
        argument(among(way, 0, 5));
        return change(cell, cells[cell].lettered(WAYS[way]));
    }

    int plain(int cell) {
        cell(cell);
        return get(cells[cell].plain(), cell);
    }

    int rest(int cell, int letter, int into) {
        cell(cell, into);
        argument(among(letter, 0, 2));
        return get(cells[cell].plain().rest((char) ('a' + letter)), into);
    }

    int open(int cell) {
        cell(cell);
        held.clear();
        held.add(cells[cell].plain());
        word = "";
        return done(cells[cell].takes("") ? 1 : 0);
    }

    int read(int letter) {
        argument(among(letter, 0, 2));
        Tree rest = held.get(held.size() - 1).rest((char) ('a' + letter));
        if (word.length() == 12 || rest.signs() > 20) {
            return refused();
        }
        held.add(rest);
        word += (char) ('a' + letter);
        return done(rest.takes("") ? 1 : 0);
    }

    int back() {
        if (word.isEmpty()) {
            return refused();
        }
        held.remove(held.size() - 1);
        word = word.substring(0, word.length() - 1);
        return done(word.length());
    }

    String text(int cell) {
        cell(cell);
        return cells[cell].text();
    }

    int signs(int cell) {
        cell(cell);
        return cells[cell].signs();
    }

    boolean empties(int cell) {
        cell(cell);
        return cells[cell].takes("");
    }

    private Tree restBehind(Tree start, String word) {
        Tree tree = start.plain();
        for (char letter : word.toCharArray()) {
            tree = tree.rest(letter);
            if (tree.signs() > 20) {
                return null;
            }
        }
        return tree;
    }

    int takes(int cell, int length, int n, int how) {
        cell(cell);
        argument(among(how, 0, 1) && among(length, 0, how == 0 ? 6 : 4) && among(n, 0, power(length) - 1));
        if (how == 1) {
            return cells[cell].takes(wordOf(length, n)) ? 1 : 0;
        }
        Tree rest = restBehind(cells[cell], wordOf(length, n));
        return rest == null ? REFUSED : rest.takes("") ? 1 : 0;
    }

    String restText(int cell, int length, int n) {
        cell(cell);
        argument(among(length, 0, 6) && among(n, 0, power(length) - 1));
        Tree rest = restBehind(cells[cell], wordOf(length, n));
        return rest == null ? "?" : rest.text();
    }

    int rests(int cell) {
        cell(cell);
        Table table = Table.of(cells[cell]);
        return table == null ? REFUSED : table.trees.size();
    }

    int next(int cell, int k, int letter) {
        cell(cell);
        argument(among(k, 0, 9) && among(letter, 0, 2));
        Table table = Table.of(cells[cell]);
        if (table == null) {
            return REFUSED;
        }
        return k < table.trees.size() ? table.nexts.get(k)[letter] : -1;
    }

    String restAt(int cell, int k) {
        cell(cell);
        argument(among(k, 0, 9));
        Table table = Table.of(cells[cell]);
        if (table == null) {
            return "?";
        }
        return k < table.trees.size() ? table.trees.get(k).text() : "";
    }

    String first(int cell) {
        cell(cell);
        Table table = Table.of(cells[cell]);
        if (table == null) {
            return "?";
        }
        // No shortest word is longer than there are RESTS.
        List<String> words = new ArrayList<>(List.of(""));
        Set<Integer> met = new HashSet<>();
        for (int i = 0; i < words.size(); i++) {
            String word = words.get(i);
            if (table.takes(word)) {
                return word + "-";
            }
            int k = 0;
            for (char letter : word.toCharArray()) {
                k = table.nexts.get(k)[letter - 'a'];
            }
            if (met.add(k)) {
                words.addAll(List.of(word + "a", word + "b", word + "c"));
            }
        }
        return "none";
    }

    int count(int cell, int length) {
        cell(cell);
        argument(among(length, 0, 12));
        Table table = Table.of(cells[cell]);
        return table == null ? REFUSED : table.counts(length)[0];
    }

    int listed(int cell, int length) {
        cell(cell);
        argument(among(length, 0, 3));
        int listed = 0;
        for (int n = 0; n < power(length); n++) {
            listed += cells[cell].takes(wordOf(length, n)) ? 1 : 0;
        }
        return listed;
    }

    int word(int cell, int length, int k) {
        cell(cell);
        argument(among(length, 0, 12) && k >= 0);
        Table table = Table.of(cells[cell]);
        if (table == null) {
            return REFUSED;
        }
        int ahead = 0;
        for (int n = 0; n < power(length); n++) {
            if (table.takes(wordOf(length, n)) && ahead++ == k) {
                return n;
            }
        }
        return -1;
    }

    /** "?", "none", or the word; oneWay asks for a word that just the first one takes. */
    private static String unlike(Tree one, Tree other, boolean oneWay) {
        Table left = Table.of(one);
        Table right = Table.of(other);
        if (left == null || right == null) {
            return "?";
        }
        ArrayDeque<String> words = new ArrayDeque<>(List.of(""));
        Set<List<Integer>> met = new HashSet<>();
        while (!words.isEmpty()) {
            String word = words.remove();
            boolean taken = left.takes(word);
            if (taken != right.takes(word) && (taken || !oneWay)) {
                return word + "-";
            }
            int k = 0;
            int m = 0;
            for (char letter : word.toCharArray()) {
                k = left.nexts.get(k)[letter - 'a'];
                m = right.nexts.get(m)[letter - 'a'];
            }
            if (met.add(List.of(k, m))) {
                words.addAll(List.of(word + "a", word + "b", word + "c"));
            }
        }
        return "none";
    }

    private static int verdict(String unlike) {
        return unlike.equals("?") ? REFUSED : unlike.equals("none") ? 1 : 0;
    }

    int same(int one, int other) {
        cell(one, other);
        return verdict(unlike(cells[one], cells[other], false));
    }

    String differ(int one, int other) {
        cell(one, other);
        return unlike(cells[one], cells[other], false);
    }

    int within(int one, int other) {
        cell(one, other);
        return verdict(unlike(cells[one], cells[other], true));
    }

    int law(int law, int x, int y, int z) {
        cell(x, y, z);
        argument(among(law, 0, 19));
        String[] sides = LAWS[law].replace("x", cells[x].text()).replace("y", cells[y].text())
                .replace("z", cells[z].text()).split("=");
        return verdict(unlike(Tree.of(sides[0]), Tree.of(sides[1]), false));
    }

    String reader(int what) {
        argument(among(what, 0, 1));
        return what == 0 ? word + "-" : held.get(held.size() - 1).text();
    }

    int house(int what) {
        argument(among(what, 0, 5));
        int signs = 0;
        int taking = 0;
        for (Tree tree : cells) {
            signs += tree.signs();
            taking += tree.takes("") ? 1 : 0;
        }
        return new int[] {acts, refusals, knocks, signs, word.length(), taking}[what];
    }

    int knock() {
        return ++knocks;
    }

    boolean isSound() {
        return true;
    }

    long digest() {
        List<Integer> values = new ArrayList<>();
        for (int i = 0; i < 6; i++) {
            values.add(signs(i));
            for (char sign : text(i).toCharArray()) {
                values.add((int) sign);
            }
            values.add(empties(i) ? 1 : 0);
        }
        values.addAll(List.of(rests(0), count(0, 4), word.length(), reader(1).length()));
        for (int what = 0; what < 6; what++) {
            values.add(house(what));
        }
        values.add(1);
        long d = 8028;
        for (int value : values) {
            d = d * 31 + value;
        }
        return d;
    }
}
