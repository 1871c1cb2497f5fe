import java.lang.management.ManagementFactory;

/** What a run makes stays small: files and pieces that went are used again. */
public final class RoomTest {
    private static final int ROUNDS = 100;
    // Without using them again, each round would make more than 300 bytes.
    private static final long MOST_BYTES = ROUNDS * 200L;

    public static void main(String[] args) {
        // The first run loads what the Java machine itself needs.
        madeByOneRun();
        long made = madeByOneRun();
        if (made > MOST_BYTES) {
            Due.is("bytes made by " + ROUNDS + " rounds", made, MOST_BYTES);
        }
        Due.finish();
    }

    private static long madeByOneRun() {
        com.sun.management.ThreadMXBean threads =
            (com.sun.management.ThreadMXBean) ManagementFactory.getThreadMXBean();
        long thread = Thread.currentThread().getId();
        StripeFiles x = new StripeFiles();
        Due.name(x, 0, "f");
        int wrong = 0;
        long before = threads.getThreadAllocatedBytes(thread);
        for (int round = 0; round < ROUNDS; round++) {
            wrong += x.feed(1, 2, 3, 4, 5) == 20 ? 0 : 1;
            wrong += x.run(1, 1000, 0) == 20 ? 0 : 1;
            wrong += x.run(4, 0, 2048) == 1020 ? 0 : 1;
            wrong += x.run(5, 0, 0) == 1020 ? 0 : 1;
        }
        long made = threads.getThreadAllocatedBytes(thread) - before;
        Due.is("wrong answers", wrong, 0);
        return made;
    }
}
