import java.util.ArrayList;
import java.util.List;
import java.util.function.Supplier;

/** Runs of 512 calls that are drawn from a fixed seed, each answer held against the Model. */
public final class RandomRunsTest {
    private static final int RUNS = Integer.getInteger("runs", 300);
    private static final int CALLS = 512;

    private long seed;
    private Letterpeel x;
    private Model model;
    private final List<String> told = new ArrayList<>();
    private int wrong;
    private int calls;

    private RandomRunsTest(long seed) {
        this.seed = seed;
    }

    public static void main(String[] args) {
        int calls = 0;
        int wrong = 0;
        long first = Long.getLong("seed", 1);
        for (int run = 0; run < RUNS && wrong == 0; run++) {
            RandomRunsTest test = new RandomRunsTest(first * 7_919 + run * 104_729L);
            test.run(run);
            calls += test.calls;
            wrong += test.wrong;
        }
        System.out.println(calls + " calls in random runs, " + wrong + " not as due");
        if (wrong != 0) {
            System.exit(1);
        }
    }

    private int draw(int bound) {
        seed = seed * 6_364_136_223_846_793_005L + 1_442_695_040_888_963_407L;
        return (int) ((seed >>> 33) % bound);
    }

    /** Mostly 0 to most, now and then one below or above. */
    private int among(int most) {
        if (draw(60) == 0) {
            return new int[] {-1, most + 1, Integer.MIN_VALUE, Integer.MAX_VALUE}[draw(4)];
        }
        return draw(most + 1);
    }

    private void run(int run) {
        x = new Letterpeel();
        model = new Model();
        int leaning = draw(4);
        for (int i = 0; i < CALLS && wrong == 0; i++) {
            calls++;
            step(leaning);
            if (wrong != 0) {
                System.out.println("run " + run + ": " + String.join("; ", told));
            }
        }
    }

    private void step(int leaning) {
        // Runs lean to building, so that the cells hold more than single signs.
        if (draw(4) < 1 + leaning % 3) {
            act();
        } else {
            ask();
        }
    }

    private void check(String call, Supplier<Object> got, Supplier<Object> due) {
        told.add(call);
        Object answer = answerOf(got);
        Object wanted = answerOf(due);
        if (!answer.equals(wanted)) {
            wrong++;
            System.out.println(call + " answered " + answer + ", due is " + wanted);
        }
        for (int i = 0; i < 6; i++) {
            isSame("text(" + i + ")", call, x.text(i), model.text(i));
            isSame("house(" + i + ")", call, x.house(i), model.house(i));
        }
        isSame("reader(0)", call, x.reader(0), model.reader(0));
        isSame("reader(1)", call, x.reader(1), model.reader(1));
    }

    /** What stands behind each call, so that a wrong act is told at once and not when somebody asks. */
    private void isSame(String what, String call, Object got, Object due) {
        if (!got.equals(due)) {
            wrong++;
            System.out.println(what + " behind " + call + " is " + got + ", due is " + due);
        }
    }

    private static Object answerOf(Supplier<Object> call) {
        try {
            return call.get();
        } catch (RuntimeException e) {
            return e.getClass().getName();
        }
    }

    private void act() {
        int a = among(5);
        int b = among(5);
        int c = among(5);
        switch (draw(20)) {
            case 0, 1, 2 -> {
                int which = draw(3) == 0 ? among(4) : 2 + draw(3);
                check("sign(" + a + ", " + which + ")", () -> x.sign(a, which), () -> model.sign(a, which));
            }
            case 3, 4 -> check("or(" + a + ", " + b + ", " + c + ")", () -> x.or(a, b, c), () -> model.or(a, b, c));
            case 5 -> check("and(" + a + ", " + b + ", " + c + ")", () -> x.and(a, b, c), () -> model.and(a, b, c));
            case 6, 7, 8 -> check("behind(" + a + ", " + b + ", " + c + ")",
                    () -> x.behind(a, b, c), () -> model.behind(a, b, c));
            case 9 -> check("not(" + a + ", " + b + ")", () -> x.not(a, b), () -> model.not(a, b));
            case 10, 11 -> check("again(" + a + ", " + b + ")", () -> x.again(a, b), () -> model.again(a, b));
            case 12 -> check("copy(" + a + ", " + b + ")", () -> x.copy(a, b), () -> model.copy(a, b));
            case 13 -> check("swap(" + a + ", " + b + ")", () -> x.swap(a, b), () -> model.swap(a, b));
            case 14 -> check("turn(" + a + ")", () -> x.turn(a), () -> model.turn(a));
            case 15 -> {
                int way = among(5);
                check("letter(" + a + ", " + way + ")", () -> x.letter(a, way), () -> model.letter(a, way));
            }
            case 16 -> check("plain(" + a + ")", () -> x.plain(a), () -> model.plain(a));
            case 17 -> {
                int letter = among(2);
                check("rest(" + a + ", " + letter + ", " + b + ")",
                        () -> x.rest(a, letter, b), () -> model.rest(a, letter, b));
            }
            default -> readerAct(a);
        }
    }

    private void readerAct(int cell) {
        int letter = among(2);
        switch (draw(8)) {
            case 0 -> check("open(" + cell + ")", () -> x.open(cell), () -> model.open(cell));
            case 1 -> check("back()", () -> x.back(), () -> model.back());
            default -> check("read(" + letter + ")", () -> x.read(letter), () -> model.read(letter));
        }
    }

    private void ask() {
        int a = among(5);
        int b = among(5);
        switch (draw(5)) {
            case 0 -> askPlainly(a);
            case 1 -> askOfWords(a);
            case 2 -> askOfRests(a);
            case 3 -> askOfTwo(a, b);
            default -> askWhole();
        }
    }

    private void askPlainly(int a) {
        switch (draw(4)) {
            case 0 -> check("text(" + a + ")", () -> x.text(a), () -> model.text(a));
            case 1 -> check("signs(" + a + ")", () -> x.signs(a), () -> model.signs(a));
            case 2 -> check("empties(" + a + ")", () -> x.empties(a), () -> model.empties(a));
            default -> check("first(" + a + ")", () -> x.first(a), () -> model.first(a));
        }
    }

    private void askOfWords(int a) {
        int length = among(6);
        int many = length >= 0 && length <= 6 ? (int) Math.round(Math.pow(3, length)) : 9;
        int n = among(many - 1);
        int how = among(1);
        int k = among(draw(3) == 0 ? 5 : many);
        switch (draw(5)) {
            case 0 -> check("takes(" + a + ", " + length + ", " + n + ", " + how + ")",
                    () -> x.takes(a, length, n, how), () -> model.takes(a, length, n, how));
            case 1 -> check("restText(" + a + ", " + length + ", " + n + ")",
                    () -> x.restText(a, length, n), () -> model.restText(a, length, n));
            case 2 -> {
                int longer = among(12);
                check("count(" + a + ", " + longer + ")", () -> x.count(a, longer), () -> model.count(a, longer));
            }
            case 3 -> {
                int shorter = among(3);
                check("listed(" + a + ", " + shorter + ")", () -> x.listed(a, shorter), () -> model.listed(a, shorter));
            }
            default -> check("word(" + a + ", " + length + ", " + k + ")",
                    () -> x.word(a, length, k), () -> model.word(a, length, k));
        }
    }

    private void askOfRests(int a) {
        int k = draw(2) == 0 ? draw(3) : among(9);
        int letter = among(2);
        switch (draw(3)) {
            case 0 -> check("rests(" + a + ")", () -> x.rests(a), () -> model.rests(a));
            case 1 -> check("next(" + a + ", " + k + ", " + letter + ")",
                    () -> x.next(a, k, letter), () -> model.next(a, k, letter));
            default -> check("restAt(" + a + ", " + k + ")", () -> x.restAt(a, k), () -> model.restAt(a, k));
        }
    }

    private void askOfTwo(int a, int b) {
        int c = among(5);
        int law = among(19);
        switch (draw(5)) {
            case 0 -> check("same(" + a + ", " + b + ")", () -> x.same(a, b), () -> model.same(a, b));
            case 1 -> check("differ(" + a + ", " + b + ")", () -> x.differ(a, b), () -> model.differ(a, b));
            case 2 -> check("within(" + a + ", " + b + ")", () -> x.within(a, b), () -> model.within(a, b));
            default -> check("law(" + law + ", " + a + ", " + b + ", " + c + ")",
                    () -> x.law(law, a, b, c), () -> model.law(law, a, b, c));
        }
    }

    private void askWhole() {
        int what = among(1);
        int house = among(5);
        switch (draw(6)) {
            case 0, 1 -> check("reader(" + what + ")", () -> x.reader(what), () -> model.reader(what));
            case 2 -> check("house(" + house + ")", () -> x.house(house), () -> model.house(house));
            case 3 -> check("knock()", () -> x.knock(), () -> model.knock());
            case 4 -> check("isSound()", () -> x.isSound(), () -> model.isSound());
            default -> check("digest()", () -> x.digest(), () -> model.digest());
        }
    }
}
