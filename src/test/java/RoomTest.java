import java.lang.management.ManagementFactory;

/** What a run makes stays small: files and pieces that went are used again, and only laid stripes have a piece. */
public final class RoomTest {
    private static final int ROUNDS = 100;
    // Without using them again, each round would make more than 300 bytes.
    private static final long MOST_BYTES = ROUNDS * 200L;
    private static final int MOST_FILES = 48;
    private static final int MOST_PIECES = 121;
    // 121 pieces of 448 bytes, 48 files with a name of 200 bytes and 19 places, and some for the rest.
    private static final long MOST_BYTES_OF_ALL = 121 * 500L + 48 * 500L + 15000;

    private static final com.sun.management.ThreadMXBean THREADS =
        (com.sun.management.ThreadMXBean) ManagementFactory.getThreadMXBean();

    public static void main(String[] args) {
        // The first runs load what the Java machine itself needs.
        madeByRounds();
        madeByMostPieces();
        atMost("bytes made by " + ROUNDS + " rounds", madeByRounds(), MOST_BYTES);
        atMost("bytes made for the most pieces", madeByMostPieces(), MOST_BYTES_OF_ALL);
        Due.finish();
    }

    private static void atMost(String what, long got, long most) {
        if (got > most) {
            Due.is(what, got, most);
        }
    }

    private static long madeSoFar() {
        return THREADS.getThreadAllocatedBytes(Thread.currentThread().getId());
    }

    private static long madeByRounds() {
        StripeFiles x = new StripeFiles();
        Due.name(x, 0, "f");
        int wrong = 0;
        long before = madeSoFar();
        for (int round = 0; round < ROUNDS; round++) {
            wrong += x.feed(1, 2, 3, 4, 5) == 20 ? 0 : 1;
            wrong += x.run(1, 1000, 0) == 20 ? 0 : 1;
            wrong += x.run(4, 0, 2048) == 1020 ? 0 : 1;
            wrong += x.run(5, 0, 0) == 1020 ? 0 : 1;
        }
        long made = madeSoFar() - before;
        Due.is("wrong answers", wrong, 0);
        return made;
    }

    /** All the files there can be, each ending with the first byte of a stripe, so that the most stripes are laid. */
    private static long madeByMostPieces() {
        int wrong = 0;
        long before = madeSoFar();
        StripeFiles x = new StripeFiles();
        int left = MOST_PIECES - MOST_FILES;
        for (int k = 0; k < MOST_FILES; k++) {
            wrong += x.feed(k << 24, 0, 0, 0, 0) == 20 && x.end(1) == 1 && x.name(0) == 1 ? 0 : 1;
            int last = Math.min(left, 18);
            for (int s = 0; s <= last; s++) {
                wrong += x.feed(-1, 0, 0, 0, 0) == 20 && x.end(1) == 1 && x.run(1, 448 * s, 0) == 1 ? 0 : 1;
            }
            left -= last;
        }
        long made = madeSoFar() - before;
        Due.is("wrong answers", wrong, 0);
        Due.is("files", x.count(0), MOST_FILES);
        Due.is("bytes", x.count(1), MOST_FILES + 448 * (MOST_PIECES - MOST_FILES));
        Due.is("pieces", x.count(2), MOST_PIECES);
        return made;
    }
}
