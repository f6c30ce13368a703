import java.lang.management.ManagementFactory;
import java.util.function.Consumer;

/** All calls of a run live in one room of some 600,000 objects and 7.3 million fields and elements. */
public final class RoomTest {
    private static final Due due = new Due();
    /** Far below that room: for the object itself, and for 512 calls of one kind. */
    private static final long MOST_BYTES = 512L * 1024;

    public static void main(String[] args) {
        room("a new object", x -> new Letterpeel(), 1);
        room("law", x -> x.law(19, 0, 1, 2), 512);
        room("law 7", x -> x.law(7, 1, 2, 0), 512);
        room("digest", Letterpeel::digest, 512);
        room("differ", x -> x.differ(1, 3), 512);
        room("first", x -> x.first(1), 512);
        room("restAt", x -> x.restAt(1, 9), 512);
        room("restText", x -> x.restText(1, 6, 5), 512);
        room("text", x -> x.text(1), 512);
        room("word", x -> x.word(1, 12, 5), 512);
        room("reader", x -> x.reader(1), 512);
        due.end();
    }

    private static void room(String name, Consumer<Letterpeel> call, int times) {
        com.sun.management.ThreadMXBean bean = (com.sun.management.ThreadMXBean) ManagementFactory.getThreadMXBean();
        Letterpeel x = Build.of("[(a.(b.[!c]))]", "((!(a.!b).!c).b)", "!(a.[(b+c)])", "((!(a.!b).!c).a)");
        x.open(1);
        x.read(0);
        call.accept(x);
        long before = bean.getCurrentThreadAllocatedBytes();
        for (int i = 0; i < times; i++) {
            call.accept(x);
        }
        long made = bean.getCurrentThreadAllocatedBytes() - before;
        System.out.println(name + ": " + made + " bytes");
        due.is(name + " keeps to the room", made < MOST_BYTES, true);
    }
}
