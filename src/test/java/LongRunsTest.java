import java.util.ArrayList;
import java.util.List;
import java.util.Random;

/** All promises: long runs of calls, the same ones every time, answer as the model does. */
public final class LongRunsTest {
    // The last step may make some calls more, and those beyond the 512th are free.
    private static final int CALLS = 504;
    private static final int RUNS = 3000;

    private final Random random;
    private final StripeFiles x = new StripeFiles();
    private final Model model = new Model();
    private final List<String> calls = new ArrayList<>();
    private final int manyNames;
    private final int farPlaces;
    private boolean right = true;

    private LongRunsTest(int seed) {
        random = new Random(seed);
        manyNames = seed % 3 == 0 ? 70 : 5;
        farPlaces = seed % 2 == 0 ? 8193 : 1400;
    }

    public static void main(String[] args) {
        for (int seed = 0; seed < RUNS; seed++) {
            LongRunsTest run = new LongRunsTest(seed);
            run.fillUp(seed % 5);
            while (run.right && run.calls.size() < CALLS) {
                run.step();
            }
            if (!run.right) {
                System.out.println("run " + seed + ":");
                run.calls.forEach(System.out::println);
                System.exit(1);
            }
        }
        Due.finish();
    }

    /** Some runs begin where FILES or bytes are nearly as many as there may be. */
    private void fillUp(int way) {
        int files = way == 1 && manyNames > 48 ? 48 : way == 2 ? 4 : 0;
        for (int which = 0; which < files; which++) {
            giveName(0, which, manyNames > 5 ? 2 : 1 + which % 3);
            operate(0, 0, 0);
            if (way == 2) {
                operate(3, 8192 - random.nextInt(10), 0);
            }
        }
    }

    private void step() {
        int dice = random.nextInt(100);
        if (dice < 22) {
            int which = random.nextInt(manyNames);
            int length = random.nextInt(30) == 0 ? 0 : manyNames > 5 ? 2 : 1 + which % 3;
            giveName(wild(random.nextInt(3) == 0 ? 1 : 0), which, length);
        } else if (dice < 34) {
            feedSome();
        } else if (dice < 36) {
            end(wild(random.nextInt(60)));
        } else if (dice < 66) {
            operateSomehow();
        } else if (dice < 76) {
            count(random.nextInt(5));
        } else if (dice < 86) {
            int k = wild(random.nextInt(manyNames));
            int what = wild(random.nextInt(4));
            answered("file(" + k + ", " + what + ")", x.file(k, what), model.file(k, what));
        } else if (dice < 94) {
            lookAtPiece();
        } else {
            int i = wild(random.nextInt(random.nextBoolean() ? 8 : 2049));
            answered("told(" + i + ")", x.told(i), model.told(i));
        }
    }

    /** Now and then a value that no call takes. */
    private int wild(int usual) {
        int[] odd = {-1, Integer.MIN_VALUE, Integer.MAX_VALUE, usual + 1, -usual, 1 << 26};
        return random.nextInt(40) == 0 ? odd[random.nextInt(odd.length)] : usual;
    }

    private void giveName(int k, int which, int length) {
        end(0);
        int first = which % 2 == 0 ? 'a' : 255;
        feed(first << 24 | which << 16 | which << 8, 0, 0, 0, 0);
        end(length);
        answered("name(" + k + ")", x.name(k), model.name(k));
    }

    private void feedSome() {
        int times = 1 + random.nextInt(random.nextInt(12) == 0 ? 110 : 4);
        for (int i = 0; i < times && right && calls.size() < CALLS; i++) {
            feed(random.nextInt(), random.nextInt(), random.nextInt(), random.nextInt(), random.nextInt());
        }
    }

    private void operateSomehow() {
        int[] kinds = {0, 1, 1, 1, 2, 2, 3, 3, 4, 4, 5, 6, 7, 8, 9};
        int kind = wild(kinds[random.nextInt(kinds.length)]);
        int stripe = 448 * random.nextInt(19) + random.nextInt(3) - 1;
        int a = wild(random.nextInt(3) == 0 ? Math.max(0, Math.min(stripe, 8192)) : random.nextInt(farPlaces));
        int b = wild(random.nextInt(2049));
        operate(kind, a, b);
        count(1);
        count(2);
    }

    private void operate(int kind, int a, int b) {
        answered("run(" + kind + ", " + a + ", " + b + ")", x.run(kind, a, b), model.run(kind, a, b));
    }

    private void lookAtPiece() {
        int k = wild(random.nextInt(Math.max(1, model.count(0))));
        int s = wild(random.nextInt(random.nextBoolean() ? 3 : 19));
        int[] edges = {0, 1, 446, 447, random.nextInt(448)};
        int i = wild(edges[random.nextInt(edges.length)]);
        answered("piece(" + k + ", " + s + ", " + i + ")", x.piece(k, s, i), model.piece(k, s, i));
    }

    private void feed(int a, int b, int c, int d, int e) {
        answered("feed(" + a + ", " + b + ", " + c + ", " + d + ", " + e + ")",
            x.feed(a, b, c, d, e), model.feed(a, b, c, d, e));
    }

    private void end(int n) {
        answered("end(" + n + ")", x.end(n), model.end(n));
    }

    private void count(int usual) {
        int what = wild(usual);
        answered("count(" + what + ")", x.count(what), model.count(what));
    }

    private void answered(String call, int got, int want) {
        calls.add(call + " answered " + got + (got == want ? "" : ", due is " + want));
        right &= got == want;
    }
}
