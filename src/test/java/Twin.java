import java.util.function.Consumer;
import java.util.function.Function;
import java.util.function.Supplier;
import java.util.function.ToIntFunction;

/** Makes two objects alike and calls but one of them; the other one tells what was there before. */
final class Twin {
    private final Due due;
    private final Supplier<Letterpeel> make;

    Twin(Due due, Supplier<Letterpeel> make) {
        this.due = due;
        this.make = make;
    }

    /** The act tells REFUSED: house() by 1 is one more, and nothing else changes. */
    void refuses(String call, ToIntFunction<Letterpeel> act) {
        Letterpeel x = make.get();
        Letterpeel before = make.get();
        due.is(call, act.applyAsInt(x), -9);
        due.is(call + ": house(1)", x.house(1), before.house(1) + 1);
        due.is(call + ": all else", State.of(x, 1), State.of(before));
    }

    /** The act is done: house() by 0 is one more, also if nothing is other then. */
    void does(String call, ToIntFunction<Letterpeel> act, int answer) {
        Letterpeel x = make.get();
        Letterpeel before = make.get();
        due.is(call, act.applyAsInt(x), answer);
        due.is(call + ": house(0)", x.house(0), before.house(0) + 1);
        due.is(call + ": house(1)", x.house(1), before.house(1));
    }

    /** What is asked tells this, and nothing changes nor is counted. */
    void tells(String call, Function<Letterpeel, Object> ask, Object answer) {
        Letterpeel x = make.get();
        due.is(call, ask.apply(x), answer);
        isAsBefore(call, x);
    }

    /** The call throws this, and nothing changes nor is counted. */
    void fails(String call, Class<? extends RuntimeException> thrown, Consumer<Letterpeel> run) {
        Letterpeel x = make.get();
        due.fails(call, thrown, () -> run.accept(x));
        isAsBefore(call, x);
    }

    private void isAsBefore(String call, Letterpeel x) {
        Letterpeel before = make.get();
        due.is(call + ": digest", x.digest(), before.digest());
        due.is(call + ": all", State.of(x), State.of(before));
    }
}
