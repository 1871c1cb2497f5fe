import java.nio.charset.StandardCharsets;
import java.util.Arrays;

/** What the tests share: comparing answers with those that are due, and bringing texts in. */
final class Due {
    private static int wrong = 0;

    private Due() {
    }

    static void is(String call, long got, long want) {
        if (got != want) {
            wrong++;
            System.out.println(call + " answered " + got + ", due is " + want);
        }
    }

    static void same(String call, String got, String want) {
        if (!got.equals(want)) {
            wrong++;
            System.out.println(call + " is " + got + ", due is " + want);
        }
    }

    /** Ends the test, with exit code 1 if an answer was wrong. */
    static void finish() {
        if (wrong != 0) {
            System.exit(1);
        }
    }

    static byte[] bytes(String text) {
        return text.getBytes(StandardCharsets.ISO_8859_1);
    }

    static String text(byte[] bytes) {
        return new String(bytes, StandardCharsets.ISO_8859_1);
    }

    /** So many bytes that are all the same. */
    static byte[] many(int n, int value) {
        byte[] made = new byte[n];
        Arrays.fill(made, (byte) value);
        return made;
    }

    /** The empty TAPE becomes these bytes. */
    static void tape(StripeFiles x, byte[] bytes) {
        byte[] padded = Arrays.copyOf(bytes, (bytes.length + 19) / 20 * 20);
        for (int i = 0; i < padded.length; i += 20) {
            int got = x.feed(word(padded, i), word(padded, i + 4), word(padded, i + 8),
                word(padded, i + 12), word(padded, i + 16));
            is("feed for the tape", got, i + 20);
        }
        is("end for the tape", x.end(bytes.length), bytes.length);
    }

    static int word(byte[] bytes, int i) {
        return (bytes[i] & 255) << 24 | (bytes[i + 1] & 255) << 16 | (bytes[i + 2] & 255) << 8 | bytes[i + 3] & 255;
    }

    static void name(StripeFiles x, int k, byte[] bytes) {
        tape(x, bytes);
        is("name(" + k + ")", x.name(k), bytes.length);
    }

    static void name(StripeFiles x, int k, String text) {
        name(x, k, bytes(text));
    }

    static void make(StripeFiles x, String text) {
        name(x, 0, text);
        is("MAKE " + text, x.run(0, 0, 0), 0);
    }

    static void write(StripeFiles x, String text, int a, byte[] bytes) {
        name(x, 0, text);
        tape(x, bytes);
        is("WRITE " + a + " into " + text, x.run(1, a, 0), bytes.length);
    }

    static void told(StripeFiles x, byte[] want) {
        for (int i = 0; i < want.length; i++) {
            is("told(" + i + ")", x.told(i), want[i] & 255);
        }
        is("told(" + want.length + ")", x.told(want.length), -2);
    }

    static void told(StripeFiles x, String want) {
        told(x, bytes(want));
    }
}
