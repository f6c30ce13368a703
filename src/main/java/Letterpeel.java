/** Six expressions over three letters, a reader that goes through a word, and what one may ask of them. */
public final class Letterpeel {
    private static final int NONE = -1;
    private static final int REFUSED = -9;
    private static final int LARGEST = 2147483647;
    private static final int CELLS = 6;
    private static final int MOST_CELL_SIGNS = 14;
    private static final int MOST_REST_SIGNS = 20;
    /** A TEXT has at most twice as many places as SIGNS, less one. */
    private static final int CELL_ROOM = 2 * MOST_CELL_SIGNS - 1;
    private static final int REST_ROOM = 2 * MOST_REST_SIGNS - 1;
    /** The longest side of a LAW (19, the right one) has 62 SIGNS, with 14 in each CELL. */
    private static final int SIDE_ROOM = 2 * 62 - 1;
    /** A side of a LAW nests at most 19 deep; a tree that comes of peeling stays below this, too. */
    private static final int DEEPEST = 40;
    private static final int LONGEST_READ = 12;
    private static final int LONGEST_COUNTED = 12;
    /** For each way, what becomes of a, b, c. */
    private static final int[] WAYS = {0, 1, 2, 0, 2, 1, 1, 0, 2, 1, 2, 0, 2, 0, 1, 2, 1, 0};

    private final Row[] cells;
    private final Row work;
    private final Row plained;
    private final Row turned;
    private final Grove grove;
    private final Meaning meaning;
    private final RestTable ones;
    private final RestTable others;
    private final Pairs pairs;
    private final Reading reading;
    private int acts;
    private int refusals;
    private int knocks;

    public Letterpeel() {
        cells = new Row[CELLS];
        for (int i = 0; i < cells.length; i++) {
            cells[i] = new Row(CELL_ROOM);
            cells[i].add('0');
        }
        work = new Row(SIDE_ROOM);
        plained = new Row(REST_ROOM);
        turned = new Row(CELL_ROOM);
        grove = new Grove();
        meaning = new Meaning();
        ones = new RestTable();
        others = new RestTable();
        pairs = new Pairs();
        reading = new Reading();
    }

    public int sign(int cell, int which) throws IndexOutOfBoundsException, IllegalArgumentException {
        Row row = cellAt(cell);
        needWithin(which, 0, 4);
        int had = row.weight();
        row.clear();
        row.add(which < 2 ? '0' + which : 'a' + which - 2);
        return done(had);
    }

    public int or(int one, int other, int into) throws IndexOutOfBoundsException {
        return join(cellAt(one), '+', cellAt(other), cellAt(into));
    }

    public int and(int one, int other, int into) throws IndexOutOfBoundsException {
        return join(cellAt(one), '&', cellAt(other), cellAt(into));
    }

    public int behind(int one, int other, int into) throws IndexOutOfBoundsException {
        return join(cellAt(one), '.', cellAt(other), cellAt(into));
    }

    public int not(int cell, int into) throws IndexOutOfBoundsException {
        Row row = cellAt(cell);
        Row target = cellAt(into);
        work.clear();
        work.add('!');
        work.addRow(row);
        return keepWork(target);
    }

    public int again(int cell, int into) throws IndexOutOfBoundsException {
        Row row = cellAt(cell);
        Row target = cellAt(into);
        work.clear();
        work.add('[');
        work.addRow(row);
        work.add(']');
        return keepWork(target);
    }

    public int copy(int cell, int into) throws IndexOutOfBoundsException {
        Row row = cellAt(cell);
        Row target = cellAt(into);
        target.become(row);
        return done(target.weight());
    }

    public int swap(int cell, int other) throws IndexOutOfBoundsException {
        Row row = cellAt(cell);
        Row second = cellAt(other);
        boolean alike = row.isLike(second);
        work.become(row);
        row.become(second);
        second.become(work);
        return done(alike ? 0 : 1);
    }

    public int turn(int cell) throws IndexOutOfBoundsException {
        Row row = cellAt(cell);
        turnRow(row, turned);
        return becomeOther(row, turned);
    }

    public int letter(int cell, int way) throws IndexOutOfBoundsException, IllegalArgumentException {
        Row row = cellAt(cell);
        needWithin(way, 0, 5);
        work.clear();
        for (int i = 0; i < row.size(); i++) {
            work.add(lettered(row.at(i), way));
        }
        return becomeOther(row, work);
    }

    public int plain(int cell) throws IndexOutOfBoundsException {
        Row row = cellAt(cell);
        grove.write(grove.load(row), row);
        return done(row.weight());
    }

    public int rest(int cell, int letter, int into) throws IndexOutOfBoundsException, IllegalArgumentException {
        Row row = cellAt(cell);
        Row target = cellAt(into);
        needWithin(letter, 0, 2);
        grove.load(row);
        int node = grove.peel(letter);
        if (grove.weightOf(node) > MOST_CELL_SIGNS) {
            return refuse();
        }
        grove.write(node, target);
        return done(target.weight());
    }

    public int open(int cell) throws IndexOutOfBoundsException {
        Row row = cellAt(cell);
        int node = grove.load(row);
        reading.begin();
        grove.write(node, reading.held());
        return done(grove.hasEmpty(node) ? 1 : 0);
    }

    public int read(int letter) throws IllegalArgumentException {
        needWithin(letter, 0, 2);
        if (reading.size() >= LONGEST_READ) {
            return refuse();
        }
        grove.load(reading.held());
        int node = grove.peel(letter);
        if (grove.weightOf(node) > MOST_REST_SIGNS) {
            return refuse();
        }
        reading.goOn(letter);
        grove.write(node, reading.held());
        return done(grove.hasEmpty(node) ? 1 : 0);
    }

    public int back() {
        if (reading.size() == 0) {
            return refuse();
        }
        reading.goBack();
        return done(reading.size());
    }

    public String text(int cell) throws IndexOutOfBoundsException {
        return cellAt(cell).told();
    }

    public int signs(int cell) throws IndexOutOfBoundsException {
        return cellAt(cell).weight();
    }

    public boolean empties(int cell) throws IndexOutOfBoundsException {
        Row row = cellAt(cell);
        meaning.choose(0, 0, false);
        return meaning.isTakenBy(row);
    }

    public int takes(int cell, int length, int n, int how) throws IndexOutOfBoundsException, IllegalArgumentException {
        Row row = cellAt(cell);
        needWithin(how, 0, 1);
        needWithin(length, 0, how == 0 ? 6 : 4);
        needWithin(n, 0, wordsOf(length) - 1);
        if (how == 1) {
            meaning.choose(length, n, false);
            return meaning.isTakenBy(row) ? 1 : 0;
        }
        if (!walk(row, length, n)) {
            return REFUSED;
        }
        return grove.hasEmpty(grove.load(plained)) ? 1 : 0;
    }

    public String restText(int cell, int length, int n) throws IndexOutOfBoundsException, IllegalArgumentException {
        Row row = cellAt(cell);
        needWithin(length, 0, 6);
        needWithin(n, 0, wordsOf(length) - 1);
        return walk(row, length, n) ? plained.told() : "?";
    }

    public int rests(int cell) throws IndexOutOfBoundsException {
        Row row = cellAt(cell);
        ones.explore(grove, row);
        return ones.isWide() ? REFUSED : ones.size();
    }

    public int next(int cell, int k, int letter) throws IndexOutOfBoundsException, IllegalArgumentException {
        Row row = cellAt(cell);
        needWithin(k, 0, RestTable.MOST - 1);
        needWithin(letter, 0, 2);
        ones.explore(grove, row);
        return ones.isWide() ? REFUSED : ones.follow(k, letter);
    }

    public String restAt(int cell, int k) throws IndexOutOfBoundsException, IllegalArgumentException {
        Row row = cellAt(cell);
        needWithin(k, 0, RestTable.MOST - 1);
        ones.explore(grove, row);
        return ones.isWide() ? "?" : ones.tell(k);
    }

    public String first(int cell) throws IndexOutOfBoundsException {
        Row row = cellAt(cell);
        work.clear();
        work.add('0');
        return firstUnlikeWord(row, work);
    }

    public int count(int cell, int length) throws IndexOutOfBoundsException, IllegalArgumentException {
        Row row = cellAt(cell);
        needWithin(length, 0, LONGEST_COUNTED);
        ones.explore(grove, row);
        return ones.isWide() ? REFUSED : ones.countWords(length);
    }

    public int listed(int cell, int length) throws IndexOutOfBoundsException, IllegalArgumentException {
        Row row = cellAt(cell);
        needWithin(length, 0, 3);
        int taken = 0;
        int words = wordsOf(length);
        for (int n = 0; n < words; n++) {
            meaning.choose(length, n, false);
            if (meaning.isTakenBy(row)) {
                taken++;
            }
        }
        return taken;
    }

    public int word(int cell, int length, int k) throws IndexOutOfBoundsException, IllegalArgumentException {
        Row row = cellAt(cell);
        needWithin(length, 0, LONGEST_COUNTED);
        needWithin(k, 0, LARGEST);
        ones.explore(grove, row);
        return ones.isWide() ? REFUSED : ones.findWord(length, k);
    }

    public int same(int one, int other) throws IndexOutOfBoundsException {
        return compareRows(cellAt(one), cellAt(other), false);
    }

    public String differ(int one, int other) throws IndexOutOfBoundsException {
        return firstUnlikeWord(cellAt(one), cellAt(other));
    }

    public int within(int one, int other) throws IndexOutOfBoundsException {
        return compareRows(cellAt(one), cellAt(other), true);
    }

    public int law(int law, int x, int y, int z) throws IndexOutOfBoundsException, IllegalArgumentException {
        Row first = cellAt(x);
        Row second = cellAt(y);
        Row third = cellAt(z);
        needWithin(law, 0, 19);
        String sides = lawText(law);
        int middle = sides.indexOf('=');
        layOut(sides, 0, middle, first, second, third);
        ones.explore(grove, work);
        layOut(sides, middle + 1, sides.length(), first, second, third);
        others.explore(grove, work);
        return compareTables(false);
    }

    public String reader(int what) throws IllegalArgumentException {
        needWithin(what, 0, 1);
        return what == 0 ? reading.wordRead() : reading.held().told();
    }

    public int house(int what) throws IllegalArgumentException {
        needWithin(what, 0, 5);
        switch (what) {
            case 0:
                return acts;
            case 1:
                return refusals;
            case 2:
                return knocks;
            case 3:
                return weightOfCells();
            case 4:
                return reading.size();
            default:
                return cellsWithEmpty();
        }
    }

    public int knock() {
        knocks++;
        return knocks;
    }

    public boolean isSound() {
        Row x = cellAt(0);
        grove.write(grove.load(x), plained);
        grove.write(grove.load(plained), work);
        if (plained.weight() > x.weight() || !work.isLike(plained)) {
            return false;
        }
        turnRow(x, turned);
        ones.explore(grove, x);
        for (int length = 0; length <= 2; length++) {
            int words = wordsOf(length);
            for (int n = 0; n < words; n++) {
                if (!isSoundFor(x, length, n)) {
                    return false;
                }
            }
        }
        return reading.size() <= LONGEST_READ && reading.held().weight() <= MOST_REST_SIGNS;
    }

    public long digest() {
        long sum = 8028;
        for (int i = 0; i < cells.length; i++) {
            Row row = cells[i];
            sum = sum * 31 + row.weight();
            for (int place = 0; place < row.size(); place++) {
                sum = sum * 31 + row.at(place);
            }
            sum = sum * 31 + (empties(i) ? 1 : 0);
        }
        sum = sum * 31 + rests(0);
        sum = sum * 31 + count(0, 4);
        sum = sum * 31 + reading.size();
        sum = sum * 31 + reading.held().size();
        for (int what = 0; what <= 5; what++) {
            sum = sum * 31 + house(what);
        }
        return sum * 31 + (isSound() ? 1 : 0);
    }

    private Row cellAt(int cell) throws IndexOutOfBoundsException {
        if (cell < 0 || cell >= cells.length) {
            throw new IndexOutOfBoundsException("there is no such cell");
        }
        return cells[cell];
    }

    private static void needWithin(int value, int least, int most) throws IllegalArgumentException {
        if (value < least || value > most) {
            throw new IllegalArgumentException("a number is out of its bounds");
        }
    }

    private int done(int answer) {
        acts++;
        return answer;
    }

    private int refuse() {
        refusals++;
        return REFUSED;
    }

    private int join(Row one, int sign, Row other, Row into) {
        work.clear();
        work.add('(');
        work.addRow(one);
        work.add(sign);
        work.addRow(other);
        work.add(')');
        return keepWork(into);
    }

    private int keepWork(Row into) {
        int weight = work.weight();
        if (weight > MOST_CELL_SIGNS) {
            return refuse();
        }
        into.become(work);
        return done(weight);
    }

    private int becomeOther(Row row, Row changed) {
        boolean alike = row.isLike(changed);
        row.become(changed);
        return done(alike ? 0 : 1);
    }

    private static int lettered(int sign, int way) {
        int place = way * 3 + sign - 'a';
        boolean isLetter = sign >= 'a' && sign <= 'c';
        return isLetter && place >= 0 && place < WAYS.length ? 'a' + WAYS[place] : sign;
    }

    private static void turnRow(Row from, Row into) {
        into.clear();
        turnPart(from, 0, from.size(), into, 0);
    }

    private static void turnPart(Row from, int start, int end, Row into, int depth) {
        if (depth > DEEPEST) {
            return;
        }
        int lead = from.at(start);
        if (lead == '(') {
            turnJoined(from, start, end, into, depth);
            return;
        }
        into.add(lead);
        if (lead == '!') {
            turnPart(from, start + 1, end, into, depth + 1);
        } else if (lead == '[') {
            turnPart(from, start + 1, end - 1, into, depth + 1);
            into.add(']');
        }
    }

    /** Goes through the PARTS from the left, those of a BEHIND from the right. */
    private static void turnJoined(Row from, int start, int end, Row into, int depth) {
        boolean fromRight = from.joinOf(start) == '.';
        int step = fromRight ? -1 : 1;
        int last = fromRight ? end - 1 : start;
        int place = last;
        int nest = 0;
        into.add('(');
        for (int i = 1; i < end - start; i++) {
            place += step;
            int sign = from.at(place);
            boolean closes = i == end - start - 1;
            if (closes || nest == 0 && isJoin(sign)) {
                turnPart(from, Math.min(last, place) + 1, Math.max(last, place), into, depth + 1);
                into.add(closes ? ')' : sign);
                last = place;
            }
            nest += step * nesting(sign);
        }
    }

    private static boolean isJoin(int sign) {
        return sign == '+' || sign == '&' || sign == '.';
    }

    private static int nesting(int sign) {
        if (sign == '(' || sign == '[') {
            return 1;
        }
        return sign == ')' || sign == ']' ? -1 : 0;
    }

    private static int wordsOf(int length) {
        int words = 1;
        for (int i = 0; i < length; i++) {
            words *= 3;
        }
        return words;
    }

    /** The letter at a place of the WORD (length, n). */
    private static int letterAt(int length, int n, int place) {
        int left = n;
        for (int i = length - 1; i > place; i--) {
            left /= 3;
        }
        return left % 3;
    }

    /** Leaves the REST behind the WORD in the row plained; false if one on the way has too many SIGNS. */
    private boolean walk(Row from, int length, int n) {
        grove.write(grove.load(from), plained);
        for (int i = 0; i < length; i++) {
            grove.load(plained);
            int node = grove.peel(letterAt(length, n, i));
            if (grove.weightOf(node) > MOST_REST_SIGNS) {
                return false;
            }
            grove.write(node, plained);
        }
        return true;
    }

    private int compareRows(Row one, Row other, boolean oneWay) {
        ones.explore(grove, one);
        others.explore(grove, other);
        return compareTables(oneWay);
    }

    private int compareTables(boolean oneWay) {
        if (ones.isWide() || others.isWide()) {
            return REFUSED;
        }
        return pairs.findUnlike(ones, others, oneWay) == NONE ? 1 : 0;
    }

    private String firstUnlikeWord(Row one, Row other) {
        ones.explore(grove, one);
        others.explore(grove, other);
        if (ones.isWide() || others.isWide()) {
            return "?";
        }
        int found = pairs.findUnlike(ones, others, false);
        return found == NONE ? "none" : pairs.wordTo(found);
    }

    /** Puts a side of a LAW together in the row work, with the TEXTS in the place of x, y, z. */
    private void layOut(String sides, int from, int to, Row x, Row y, Row z) {
        work.clear();
        for (int i = Math.max(from, 0); i < to && i < sides.length(); i++) {
            char sign = sides.charAt(i);
            if (sign == 'x') {
                work.addRow(x);
            } else if (sign == 'y') {
                work.addRow(y);
            } else if (sign == 'z') {
                work.addRow(z);
            } else {
                work.add(sign);
            }
        }
    }

    private static String lawText(int law) {
        switch (law) {
            case 0: return "(x+y)=(y+x)";
            case 1: return "(x&y)=(y&x)";
            case 2: return "(x.(y+z))=((x.y)+(x.z))";
            case 3: return "((x+y).z)=((x.z)+(y.z))";
            case 4: return "!(x+y)=(!x&!y)";
            case 5: return "!(x&y)=(!x+!y)";
            case 6: return "(x&(y+z))=((x&y)+(x&z))";
            case 7: return "(x+(y&z))=((x+y)&(x+z))";
            case 8: return "(x+(x&y))=x";
            case 9: return "(x&!x)=0";
            case 10: return "(x+!x)=!0";
            case 11: return "[x]=(1+(x.[x]))";
            case 12: return "[(x+y)]=([x].[(y.[x])])";
            case 13: return "[(x+y)]=[([x].[y])]";
            case 14: return "(x.[(y.x)])=([(x.y)].x)";
            case 15: return "([x].[x])=[x]";
            case 16: return "[[x]]=[x]";
            case 17: return "[(1+x)]=[x]";
            case 18: return "((x.y).z)=(x.(y.z))";
            default: return "[(x.y)]=(1+(x.([(y.x)].y)))";
        }
    }

    private int weightOfCells() {
        int weight = 0;
        for (int i = 0; i < cells.length; i++) {
            weight += cells[i].weight();
        }
        return weight;
    }

    private int cellsWithEmpty() {
        int many = 0;
        meaning.choose(0, 0, false);
        for (int i = 0; i < cells.length; i++) {
            if (meaning.isTakenBy(cells[i])) {
                many++;
            }
        }
        return many;
    }

    /** Asks of one word; the rows plained and turned and the table ones are to hold those of x. */
    private boolean isSoundFor(Row x, int length, int n) {
        meaning.choose(length, n, false);
        boolean taken = meaning.isTakenBy(x);
        if (meaning.isTakenBy(plained) != taken) {
            return false;
        }
        if (!ones.isWide() && ones.takesWord(length, n) != taken) {
            return false;
        }
        meaning.choose(length, n, true);
        return meaning.isTakenBy(turned) == taken;
    }

    /** A TEXT in a room that is made once and never grows. */
    static final class Row {
        private final char[] held;
        private int used;

        Row(int room) {
            held = new char[Math.max(room, 0)];
        }

        int size() {
            return used;
        }

        /** The sign at a place; 0 where there is none. */
        int at(int place) {
            return place >= 0 && place < used && place < held.length ? held[place] : 0;
        }

        void clear() {
            used = 0;
        }

        void add(int sign) {
            if (used >= 0 && used < held.length) {
                held[used] = (char) sign;
                used++;
            }
        }

        void addRow(Row other) {
            int many = other.used;
            for (int i = 0; i < many; i++) {
                add(other.at(i));
            }
        }

        void become(Row other) {
            if (other != this) {
                clear();
                addRow(other);
            }
        }

        boolean isLike(Row other) {
            if (other.used != used) {
                return false;
            }
            for (int i = 0; i < used; i++) {
                if (at(i) != other.at(i)) {
                    return false;
                }
            }
            return true;
        }

        /** SIGNS: a pair of brackets round PARTS counts by the signs between them, "[" and "]" count once. */
        int weight() {
            int weight = 0;
            for (int i = 0; i < used; i++) {
                int sign = at(i);
                if (sign != '(' && sign != ')' && sign != ']') {
                    weight++;
                }
            }
            return weight;
        }

        /** The sign between the PARTS of what begins with "(" at this place. */
        int joinOf(int start) {
            int nest = 0;
            for (int i = start; i < used; i++) {
                int sign = at(i);
                if (nest == 1 && isJoin(sign)) {
                    return sign;
                }
                nest += nesting(sign);
            }
            return 0;
        }

        String told() {
            StringBuilder text = new StringBuilder();
            for (int i = 0; i < used; i++) {
                text.append((char) at(i));
            }
            return text.toString();
        }
    }

    /**
     * PLAIN expressions as trees. They are built anew from a TEXT each time, in rows that stay,
     * so that no call needs new room. A kind is the sign by which the TEXT tells it.
     */
    static final class Grove {
        private static final int NOTHING = 0;
        private static final int EMPTY = 1;
        private static final int LETTERS = 2;
        private static final int ALL = 5;
        /** A side of a LAW makes at most 62 nodes, peeling one of 20 SIGNS at most 40 more. */
        private static final int MOST_NODES = 128;
        /** No node has 32 PARTS: a side of a LAW has at most 31 single signs. */
        private static final int MOST_PARTS = 32 * MOST_NODES;
        private static final int MOST_WAITING = 256;

        private final int[] kinds;
        private final int[] starts;
        private final int[] counts;
        private final int[] weights;
        private final boolean[] empty;
        private final int[] parts;
        private final int[] waiting;
        private final int fixedNodes;
        private final int fixedParts;
        private int nodes;
        private int filled;
        private int top;
        private int place;
        private int root;
        private int rootNodes;
        private int rootParts;

        Grove() {
            kinds = new int[MOST_NODES];
            starts = new int[MOST_NODES];
            counts = new int[MOST_NODES];
            weights = new int[MOST_NODES];
            empty = new boolean[MOST_NODES];
            parts = new int[MOST_PARTS];
            waiting = new int[MOST_WAITING];
            grow('0', 0);
            grow('1', 0);
            grow('a', 0);
            grow('b', 0);
            grow('c', 0);
            hold(NOTHING);
            grow('!', 0);
            fixedNodes = nodes;
            fixedParts = filled;
        }

        /** Makes PLAIN what the TEXT tells, and holds it ready to be peeled. */
        int load(Row row) {
            nodes = fixedNodes;
            filled = fixedParts;
            top = 0;
            place = 0;
            root = readPart(row, 0);
            rootNodes = nodes;
            rootParts = filled;
            return root;
        }

        /** The REST of what was loaded; it stands till the next one is made. */
        int peel(int letter) {
            nodes = rootNodes;
            filled = rootParts;
            top = 0;
            return peelPart(root, letter, 0);
        }

        int weightOf(int node) {
            return node >= 0 && node < nodes && node < weights.length ? weights[node] : 0;
        }

        boolean hasEmpty(int node) {
            return node >= 0 && node < nodes && node < empty.length && empty[node];
        }

        void write(int node, Row row) {
            row.clear();
            writePart(node, row, 0);
        }

        private int kindOf(int node) {
            return node >= 0 && node < nodes && node < kinds.length ? kinds[node] : '0';
        }

        private int countOf(int node) {
            return node >= 0 && node < nodes && node < counts.length ? counts[node] : 0;
        }

        private int partOf(int node, int number) {
            if (node < 0 || node >= nodes || node >= starts.length || node >= counts.length) {
                return NOTHING;
            }
            if (number < 0 || number >= counts[node]) {
                return NOTHING;
            }
            int at = starts[node] + number;
            return at >= 0 && at < parts.length ? parts[at] : NOTHING;
        }

        private int waitingAt(int at) {
            return at >= 0 && at < top && at < waiting.length ? waiting[at] : NOTHING;
        }

        private void hold(int part) {
            if (top >= 0 && top < waiting.length) {
                waiting[top] = part;
                top++;
            }
        }

        /** A new node whose PARTS are those that wait from start on. */
        private int grow(int kind, int start) {
            int many = top - start;
            if (!hasRoom() || many < 0 || filled < 0 || filled > parts.length - many) {
                top = start;
                return NOTHING;
            }
            int node = nodes;
            int weight = isJoin(kind) ? many - 1 : 1;
            int withEmpty = 0;
            starts[node] = filled;
            counts[node] = many;
            for (int i = start; i < top && filled < parts.length; i++) {
                int part = waitingAt(i);
                weight += weightOf(part);
                withEmpty += hasEmpty(part) ? 1 : 0;
                parts[filled] = part;
                filled++;
            }
            kinds[node] = kind;
            weights[node] = weight;
            empty[node] = takesEmpty(kind, many, withEmpty);
            nodes++;
            top = start;
            return node;
        }

        private boolean hasRoom() {
            boolean named = nodes >= 0 && nodes < kinds.length && nodes < weights.length && nodes < empty.length;
            return named && nodes < starts.length && nodes < counts.length;
        }

        private static boolean takesEmpty(int kind, int many, int withEmpty) {
            switch (kind) {
                case '1':
                case '[':
                    return true;
                case '!':
                    return withEmpty == 0;
                case '+':
                    return withEmpty > 0;
                case '&':
                case '.':
                    return withEmpty == many;
                default:
                    return false;
            }
        }

        private int makeNot(int part) {
            if (part == NOTHING) {
                return ALL;
            }
            if (kindOf(part) == '!') {
                return partOf(part, 0);
            }
            int start = top;
            hold(part);
            return grow('!', start);
        }

        private int makeAgain(int part) {
            if (part == NOTHING || part == EMPTY) {
                return EMPTY;
            }
            if (kindOf(part) == '[') {
                return part;
            }
            int start = top;
            hold(part);
            return grow('[', start);
        }

        /** What goes from among the PARTS, and is left where there is none. */
        private static int neutralOf(int join) {
            if (join == '.') {
                return EMPTY;
            }
            return join == '+' ? NOTHING : ALL;
        }

        /** What takes the place of the whole. */
        private static int rulerOf(int join) {
            return join == '+' ? ALL : NOTHING;
        }

        /**
         * Puts a PART to those that wait from start on; one of the same kind gives its own PARTS.
         * Those of OR and AND stand by their TEXTS, each but once.
         */
        private void put(int join, int start, int part) {
            boolean opens = kindOf(part) == join;
            int many = opens ? countOf(part) : 1;
            for (int i = 0; i < many; i++) {
                int one = opens ? partOf(part, i) : part;
                int at = top;
                int order = 1;
                for (int k = start; k < top && order > 0 && join != '.'; k++) {
                    order = compare(one, waitingAt(k), 0);
                    at = order > 0 ? top : k;
                }
                if (order != 0 && one != neutralOf(join)) {
                    insert(at, one);
                }
            }
        }

        private void insert(int at, int part) {
            hold(part);
            for (int i = top - 1; i > at && i > 0 && i < waiting.length; i--) {
                waiting[i] = waiting[i - 1];
            }
            if (at >= 0 && at < top && at < waiting.length) {
                waiting[at] = part;
            }
        }

        private int close(int join, int start) {
            int many = top - start;
            for (int i = start; i < top; i++) {
                if (waitingAt(i) == rulerOf(join)) {
                    top = start;
                    return rulerOf(join);
                }
            }
            if (many > 1) {
                return grow(join, start);
            }
            int alone = many == 1 ? waitingAt(start) : neutralOf(join);
            top = start;
            return alone;
        }

        /** Compares by TEXTS. No TEXT begins another one, so PARTS that are unlike decide. */
        private int compare(int one, int other, int depth) {
            if (one == other || depth > DEEPEST) {
                return 0;
            }
            int kind = kindOf(one);
            int otherKind = kindOf(other);
            int lead = isJoin(kind) ? '(' : kind;
            int otherLead = isJoin(otherKind) ? '(' : otherKind;
            if (lead != otherLead) {
                return lead - otherLead;
            }
            int many = Math.min(countOf(one), countOf(other));
            for (int i = 0; i < many; i++) {
                int order = compare(partOf(one, i), partOf(other, i), depth + 1);
                if (order != 0) {
                    return order;
                }
                int sign = i + 1 < countOf(one) ? kind : ')';
                int otherSign = i + 1 < countOf(other) ? otherKind : ')';
                if (sign != otherSign) {
                    return sign - otherSign;
                }
            }
            return 0;
        }

        private int readPart(Row row, int depth) {
            if (depth > DEEPEST) {
                return NOTHING;
            }
            int sign = row.at(place);
            place++;
            if (sign == '!') {
                return makeNot(readPart(row, depth + 1));
            }
            if (sign == '[') {
                int part = readPart(row, depth + 1);
                place++;
                return makeAgain(part);
            }
            if (sign == '(') {
                return readJoined(row, depth);
            }
            if (sign >= 'a' && sign <= 'c') {
                return LETTERS + sign - 'a';
            }
            return sign == '1' ? EMPTY : NOTHING;
        }

        private int readJoined(Row row, int depth) {
            int part = readPart(row, depth + 1);
            int join = row.at(place);
            int start = top;
            put(join, start, part);
            for (int i = 0; i < row.size() && row.at(place) == join; i++) {
                place++;
                put(join, start, readPart(row, depth + 1));
            }
            place++;
            return close(join, start);
        }

        private int peelPart(int node, int letter, int depth) {
            if (depth > DEEPEST) {
                return NOTHING;
            }
            int kind = kindOf(node);
            if (kind == '!') {
                return makeNot(peelPart(partOf(node, 0), letter, depth + 1));
            }
            if (kind == '[') {
                int part = peelPart(partOf(node, 0), letter, depth + 1);
                int start = top;
                put('.', start, part);
                put('.', start, node);
                return close('.', start);
            }
            if (kind == '.') {
                return peelBehind(node, letter, depth);
            }
            if (isJoin(kind)) {
                return peelEach(node, letter, depth);
            }
            return node == LETTERS + letter ? EMPTY : NOTHING;
        }

        private int peelEach(int node, int letter, int depth) {
            int join = kindOf(node);
            int many = countOf(node);
            int start = top;
            for (int i = 0; i < many; i++) {
                put(join, start, peelPart(partOf(node, i), letter, depth + 1));
            }
            return close(join, start);
        }

        private int peelBehind(int node, int letter, int depth) {
            int many = countOf(node);
            int start = top;
            for (int i = 0; i < many; i++) {
                int peeled = peelPart(partOf(node, i), letter, depth + 1);
                int inner = top;
                put('.', inner, peeled);
                for (int k = i + 1; k < many; k++) {
                    put('.', inner, partOf(node, k));
                }
                put('+', start, close('.', inner));
                if (!hasEmpty(partOf(node, i))) {
                    break;
                }
            }
            return close('+', start);
        }

        private void writePart(int node, Row row, int depth) {
            if (depth > DEEPEST) {
                return;
            }
            int kind = kindOf(node);
            boolean joins = isJoin(kind);
            row.add(joins ? '(' : kind);
            int many = countOf(node);
            for (int i = 0; i < many; i++) {
                if (i > 0) {
                    row.add(kind);
                }
                writePart(partOf(node, i), row, depth + 1);
            }
            if (joins || kind == '[') {
                row.add(joins ? ')' : ']');
            }
        }
    }

    /**
     * Which words are taken by MEANING, straight from a TEXT. A set of pieces of the chosen word is
     * one number: the bit 5 * i + j is the piece from the place i up to the place j.
     */
    static final class Meaning {
        private static final int LONGEST = 4;
        private static final int WIDTH = LONGEST + 1;
        private static final int LINE = (1 << WIDTH) - 1;

        private final int[] letters;
        private int length;
        private int all;
        private int still;
        private int place;

        Meaning() {
            letters = new int[LONGEST];
        }

        /** Chooses the WORD (length, n), or the turned one; the length is at most 4. */
        void choose(int length, int n, boolean turned) {
            this.length = Math.min(Math.max(length, 0), LONGEST);
            all = 0;
            still = 0;
            for (int i = 0; i <= this.length; i++) {
                still |= piece(i, i);
                for (int j = i; j <= this.length; j++) {
                    all |= piece(i, j);
                }
            }
            for (int i = 0; i < this.length && i < letters.length; i++) {
                letters[i] = letterAt(length, n, turned ? length - 1 - i : i);
            }
        }

        boolean isTakenBy(Row row) {
            place = 0;
            return (piecesOf(row, 0) & piece(0, length)) != 0;
        }

        private static int piece(int from, int to) {
            return 1 << (from * WIDTH + to);
        }

        private int piecesOf(Row row, int depth) {
            if (depth > DEEPEST) {
                return 0;
            }
            int sign = row.at(place);
            place++;
            if (sign == '!') {
                return all & ~piecesOf(row, depth + 1);
            }
            if (sign == '[') {
                int part = piecesOf(row, depth + 1);
                place++;
                return repeated(part);
            }
            if (sign == '(') {
                return joinedPieces(row, depth);
            }
            if (sign == '1') {
                return still;
            }
            return sign == '0' ? 0 : letterPieces(sign - 'a');
        }

        private int joinedPieces(Row row, int depth) {
            int pieces = piecesOf(row, depth + 1);
            int join = row.at(place);
            for (int i = 0; i < row.size() && row.at(place) == join; i++) {
                place++;
                int part = piecesOf(row, depth + 1);
                if (join == '+') {
                    pieces |= part;
                } else if (join == '&') {
                    pieces &= part;
                } else {
                    pieces = followedBy(pieces, part);
                }
            }
            place++;
            return pieces;
        }

        private int letterPieces(int letter) {
            int pieces = 0;
            for (int i = 0; i < length && i < letters.length; i++) {
                if (letters[i] == letter) {
                    pieces |= piece(i, i + 1);
                }
            }
            return pieces;
        }

        /** A piece that takes the empty word needs no second turn, so as many turns as letters are enough. */
        private int repeated(int part) {
            int once = still | part;
            int pieces = once;
            for (int i = 1; i < length; i++) {
                pieces = followedBy(pieces, once);
            }
            return pieces;
        }

        private int followedBy(int one, int other) {
            int pieces = 0;
            for (int i = 0; i <= length; i++) {
                int line = 0;
                for (int j = i; j <= length; j++) {
                    if ((one & piece(i, j)) != 0) {
                        line |= (other >> (j * WIDTH)) & LINE;
                    }
                }
                pieces |= line << (i * WIDTH);
            }
            return pieces;
        }
    }

    /** The numbered RESTS of one expression, and what can be told by them. */
    static final class RestTable {
        private static final int MOST = 10;

        private final Row begun;
        private final Row[] rows;
        private final Row fresh;
        private final int[] nexts;
        private final boolean[] taking;
        private final int[] ways;
        private int size;
        private boolean wide;

        RestTable() {
            begun = new Row(SIDE_ROOM);
            rows = new Row[MOST];
            for (int i = 0; i < rows.length; i++) {
                rows[i] = new Row(REST_ROOM);
            }
            fresh = new Row(REST_ROOM);
            nexts = new int[3 * MOST];
            taking = new boolean[MOST];
            ways = new int[(LONGEST_COUNTED + 1) * MOST];
        }

        /** Does nothing if it stands from a like TEXT already: often much is asked of one cell in a row. */
        void explore(Grove grove, Row start) {
            if (begun.isLike(start)) {
                return;
            }
            begun.become(start);
            size = 0;
            wide = false;
            numberOf(grove, grove.load(start));
            for (int k = 0; k < size && k < rows.length && !wide; k++) {
                grove.load(rows[k]);
                for (int at = 3 * k; at < 3 * k + 3 && at < nexts.length && !wide; at++) {
                    nexts[at] = numberOf(grove, grove.peel(at - 3 * k));
                }
            }
        }

        boolean isWide() {
            return wide;
        }

        int size() {
            return size;
        }

        /** The number of the REST by a letter; NONE if there is no REST k. */
        int follow(int k, int letter) {
            int at = 3 * k + letter;
            return k >= 0 && k < size && at >= 0 && at < nexts.length ? nexts[at] : NONE;
        }

        boolean isTaking(int k) {
            return k >= 0 && k < size && k < taking.length && taking[k];
        }

        String tell(int k) {
            return k >= 0 && k < size && k < rows.length ? rows[k].told() : "";
        }

        boolean takesWord(int length, int n) {
            int k = 0;
            for (int i = 0; i < length; i++) {
                k = follow(k, letterAt(length, n, i));
            }
            return isTaking(k);
        }

        int countWords(int length) {
            for (int i = 0; i <= length; i++) {
                for (int k = 0; k < size; k++) {
                    countFrom(i, k);
                }
            }
            return waysFrom(length, 0);
        }

        /** The n of the word that has k taken ones of its length ahead of it. */
        int findWord(int length, int k) {
            if (countWords(length) <= k) {
                return NONE;
            }
            int ahead = k;
            int state = 0;
            int n = 0;
            for (int left = length - 1; left >= 0; left--) {
                int letter = 0;
                int found = waysFrom(left, follow(state, 0));
                while (letter < 2 && found <= ahead) {
                    ahead -= found;
                    letter++;
                    found = waysFrom(left, follow(state, letter));
                }
                state = follow(state, letter);
                n = 3 * n + letter;
            }
            return n;
        }

        private int numberOf(Grove grove, int node) {
            if (grove.weightOf(node) > MOST_REST_SIGNS) {
                wide = true;
                return NONE;
            }
            grove.write(node, fresh);
            for (int k = 0; k < size && k < rows.length; k++) {
                if (rows[k].isLike(fresh)) {
                    return k;
                }
            }
            int number = size;
            if (number < 0 || number >= rows.length || number >= taking.length) {
                wide = true;
                return NONE;
            }
            rows[number].become(fresh);
            taking[number] = grove.hasEmpty(node);
            size++;
            return number;
        }

        /** How many words of this length lead from the REST k to one that takes the empty word. */
        private void countFrom(int length, int k) {
            int many = isTaking(k) ? 1 : 0;
            if (length > 0) {
                many = 0;
                for (int letter = 0; letter < 3; letter++) {
                    many += waysFrom(length - 1, follow(k, letter));
                }
            }
            int at = length * MOST + k;
            if (at >= 0 && at < ways.length) {
                ways[at] = many;
            }
        }

        private int waysFrom(int length, int k) {
            int at = length * MOST + k;
            return k >= 0 && at >= 0 && at < ways.length ? ways[at] : 0;
        }
    }

    /** The pairs of RESTS of two expressions that are met together, in the sequence of the words that lead there. */
    static final class Pairs {
        private static final int MOST = RestTable.MOST * RestTable.MOST;

        private final int[] met;
        private final int[] cameFrom;
        private final int[] cameBy;
        private final boolean[] known;
        private int size;

        Pairs() {
            met = new int[MOST];
            cameFrom = new int[MOST];
            cameBy = new int[MOST];
            known = new boolean[MOST];
        }

        /** The first pair that is unlike in taking the empty word; with oneWay only the first of both may take it. */
        int findUnlike(RestTable one, RestTable other, boolean oneWay) {
            size = 0;
            for (int i = 0; i < known.length; i++) {
                known[i] = false;
            }
            meet(0, 0, NONE, 0);
            for (int k = 0; k < size && k < met.length; k++) {
                int left = met[k] / RestTable.MOST;
                int right = met[k] % RestTable.MOST;
                boolean taken = one.isTaking(left);
                if (taken != other.isTaking(right) && (taken || !oneWay)) {
                    return k;
                }
                for (int letter = 0; letter < 3; letter++) {
                    meet(one.follow(left, letter), other.follow(right, letter), k, letter);
                }
            }
            return NONE;
        }

        /** The word that led to a pair first. */
        String wordTo(int pair) {
            StringBuilder word = new StringBuilder();
            int at = pair;
            for (int i = 0; i < MOST && at > 0 && at < cameBy.length && at < cameFrom.length; i++) {
                word.append((char) ('a' + cameBy[at]));
                at = cameFrom[at];
            }
            word.reverse();
            word.append('-');
            return word.toString();
        }

        private void meet(int left, int right, int from, int letter) {
            int pair = left * RestTable.MOST + right;
            if (left < 0 || right < 0 || pair < 0 || pair >= known.length || known[pair]) {
                return;
            }
            if (size < 0 || size >= met.length || size >= cameFrom.length || size >= cameBy.length) {
                return;
            }
            known[pair] = true;
            met[size] = pair;
            cameFrom[size] = from;
            cameBy[size] = letter;
            size++;
        }
    }

    /** What the READER holds: what it was opened with, and behind each LETTER a REST. */
    static final class Reading {
        private final Row opened;
        private final Row[] rows;
        private final int[] letters;
        private int size;

        Reading() {
            opened = new Row(REST_ROOM);
            opened.add('0');
            rows = new Row[LONGEST_READ];
            for (int i = 0; i < rows.length; i++) {
                rows[i] = new Row(REST_ROOM);
            }
            letters = new int[LONGEST_READ];
        }

        int size() {
            return size;
        }

        Row held() {
            return size > 0 && size <= rows.length ? rows[size - 1] : opened;
        }

        void begin() {
            size = 0;
        }

        void goOn(int letter) {
            if (size >= 0 && size < letters.length) {
                letters[size] = letter;
                size++;
            }
        }

        void goBack() {
            if (size > 0) {
                size--;
            }
        }

        String wordRead() {
            StringBuilder word = new StringBuilder();
            for (int i = 0; i < size && i < letters.length; i++) {
                word.append((char) ('a' + letters[i]));
            }
            word.append('-');
            return word.toString();
        }
    }
}
