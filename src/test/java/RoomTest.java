import com.sun.management.ThreadMXBean;
import java.lang.management.ManagementFactory;

/** How much room an object and its calls take: rows are made with the object, and used again by every call. */
public final class RoomTest {
    private static final ThreadMXBean THREADS = (ThreadMXBean) ManagementFactory.getThreadMXBean();
    // The rows have some 70,000 elements, of four octets or one.
    private static final long MOST_FOR_OBJECT = 4 * 73_000;
    // One small object a call.
    private static final long MOST_FOR_CALLS = 64 * Counted.MOST_CALLS;

    interface Part {
        void run();
    }

    public static void main(String[] args) {
        checkObject();
        checkWrites();
        checkReads();
        checkPointers();
        checkAnswers();
        Bench.end();
    }

    private static long taken(Part part) {
        long before = takenSoFar();
        part.run();
        return takenSoFar() - before;
    }

    private static long takenSoFar() {
        // A machine that can not tell it must not fail the test.
        boolean told = THREADS.isThreadAllocatedMemorySupported() && THREADS.isThreadAllocatedMemoryEnabled();
        return told ? THREADS.getThreadAllocatedBytes(Thread.currentThread().getId()) : 0;
    }

    /** The part is run once before, so that what the machine itself makes for a first call is not counted. */
    private static void small(String what, long most, Part part) {
        part.run();
        long taken = taken(part);
        Bench.due(what + " took " + taken + " octets of room, which is little", taken <= most, true);
    }

    private static void checkObject() {
        small("a new object", MOST_FOR_OBJECT, JsonTwin::new);
    }

    /** So many control characters that feeding them and writing them in all calls that are left puts out the most. */
    private static void checkWrites() {
        Counted twin = new Counted();
        String text = "\"" + "\\n".repeat(2500) + "\"";
        twin.feed(text);
        twin.read(0, text.length());
        small("110 writes of control characters", MOST_FOR_CALLS, () -> times(110, () -> twin.write(0, 0)));
        Counted other = new Counted();
        String words = "[" + Reading.list("[" + Reading.list("null,true,false", 20) + "]", 15) + "]";
        other.feed(words);
        other.read(1, words.length());
        small("100 writes of words", MOST_FOR_CALLS, () -> times(100, () -> other.write(1, 0)));
    }

    private static void checkReads() {
        Counted twin = new Counted();
        small("64 reads", MOST_FOR_CALLS, () -> times(64, () -> {
            twin.feed(0x7B226122, 0x3A5B312C, 0x225C6E22, 0x5D7D2020, 0x20202020);
            twin.read(0, 20);
        }));
        Bench.due("VALUES", twin.count(0), 5);
    }

    private static void checkPointers() {
        Counted twin = new Counted();
        twin.feed("{\"a\":[1,{\"b\":2}]}");
        twin.read(0, 17);
        small("64 pointers", MOST_FOR_CALLS, () -> times(64, () -> {
            twin.feed(0x2F612F31, 0x2F620000, 0, 0, 0);
            twin.pointer(0, 6);
        }));
    }

    private static void checkAnswers() {
        Bench bench = Bench.of("{\"a\":[1,{\"b\":2}],\"c\":\"d\"}", "{\"c\":\"d\",\"a\":[1.0,{\"b\":20e-1}]}");
        bench.twin.write(0, 0);
        small("other calls", MOST_FOR_CALLS, () -> times(20, () -> {
            bench.twin.same(0, 0, 1, 0);
            bench.twin.compare(0, 3, 1, 5);
            bench.twin.value(0, 0, 3);
            bench.twin.letter(0, 1, 0);
            bench.twin.octets(0);
            bench.twin.count(3);
            bench.twin.wrong();
        }));
    }

    private static void times(int times, Part part) {
        for (int i = 0; i < times; i++) {
            part.run();
        }
    }
}
