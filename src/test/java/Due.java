import java.util.Objects;

/** Counts the answers that are not as due, and prints them. */
final class Due {
    private int asked;
    private int wrong;

    void is(String call, Object got, Object due) {
        asked++;
        if (!Objects.equals(got, due)) {
            wrong++;
            System.out.println(call + " answered " + got + ", due is " + due);
        }
    }

    /** The call is to throw exactly an exception of this class. */
    void fails(String call, Class<? extends RuntimeException> due, Runnable run) {
        is(call + " throws", thrownBy(run), due);
    }

    void noCell(String call, Runnable run) {
        fails(call, IndexOutOfBoundsException.class, run);
    }

    void noArgument(String call, Runnable run) {
        fails(call, IllegalArgumentException.class, run);
    }

    void end() {
        System.out.println(asked + " answers, " + wrong + " not as due");
        if (wrong != 0 || asked == 0) {
            System.exit(1);
        }
    }

    private static Class<?> thrownBy(Runnable run) {
        try {
            run.run();
            return null;
        } catch (RuntimeException e) {
            return e.getClass();
        }
    }
}
