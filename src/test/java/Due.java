import java.nio.charset.StandardCharsets;
import java.util.Arrays;

/** What the tests share: comparing answers with those that are due, and bringing texts in. */
final class Due {
    private static int wrong = 0;
    private static String sentence = "";

    private Due() {
    }

    static void is(String call, long got, long want) {
        if (got != want) {
            wrong++;
            System.out.println(sentence + call + " answered " + got + ", due is " + want);
        }
    }

    static void same(String call, String got, String want) {
        if (!got.equals(want)) {
            wrong++;
            System.out.println(sentence + call + " is " + got + ", due is " + want);
        }
    }

    /** A new object to test what the document says in these words; wrong answers are told with them. */
    static StripeFiles sentence(String words) {
        sentence = "\"" + words + "\": ";
        return new StripeFiles();
    }

    /** Ends the test, with exit code 1 if an answer was wrong. */
    static void finish() {
        if (wrong != 0) {
            System.exit(1);
        }
    }

    static byte[] bytes(String text) {
        return text.getBytes(StandardCharsets.ISO_8859_1);
    }

    static String text(byte[] bytes) {
        return new String(bytes, StandardCharsets.ISO_8859_1);
    }

    /** So many bytes that are all the same. */
    static byte[] many(int n, int value) {
        byte[] made = new byte[n];
        Arrays.fill(made, (byte) value);
        return made;
    }

    /** The empty TAPE becomes these bytes. */
    static void tape(StripeFiles x, byte[] bytes) {
        byte[] padded = Arrays.copyOf(bytes, (bytes.length + 19) / 20 * 20);
        for (int i = 0; i < padded.length; i += 20) {
            int got = x.feed(word(padded, i), word(padded, i + 4), word(padded, i + 8),
                word(padded, i + 12), word(padded, i + 16));
            is("feed for the tape", got, i + 20);
        }
        is("end for the tape", x.end(bytes.length), bytes.length);
    }

    static int word(byte[] bytes, int i) {
        return (bytes[i] & 255) << 24 | (bytes[i + 1] & 255) << 16 | (bytes[i + 2] & 255) << 8 | bytes[i + 3] & 255;
    }

    static void name(StripeFiles x, int k, byte[] bytes) {
        tape(x, bytes);
        is("name(" + k + ")", x.name(k), bytes.length);
    }

    static void name(StripeFiles x, int k, String text) {
        name(x, k, bytes(text));
    }

    static void make(StripeFiles x, String text) {
        name(x, 0, text);
        is("MAKE " + text, x.run(0, 0, 0), 0);
    }

    static void write(StripeFiles x, String text, int a, byte[] bytes) {
        name(x, 0, text);
        tape(x, bytes);
        is("WRITE " + a + " into " + text, x.run(1, a, 0), bytes.length);
    }

    static void told(StripeFiles x, byte[] want) {
        for (int i = 0; i < want.length; i++) {
            is("told(" + i + ")", x.told(i), want[i] & 255);
        }
        is("told(" + want.length + ")", x.told(want.length), -2);
    }

    static void told(StripeFiles x, String want) {
        told(x, bytes(want));
    }

    /** Makes so many FILES without bytes, with names of two bytes. */
    static void makeMany(StripeFiles x, int n) {
        for (int k = 0; k < n; k++) {
            make(x, "f" + (char) (k + 100));
        }
    }

    /** Four FILES f0 to f3, the last of them so much shorter than the others that so many bytes are left. */
    static void leaveRoom(StripeFiles x, int left) {
        for (int k = 0; k < 4; k++) {
            make(x, "f" + k);
            is("CUT", x.run(3, k < 3 ? 8192 : 8192 - left, 0), 0);
        }
    }

    /** The FILES as far as calls that are no OPERATION can see them, with the first bytes of their stripes. */
    static String files(StripeFiles x) {
        StringBuilder seen = new StringBuilder();
        for (int what = 0; what <= 2; what++) {
            seen.append(x.count(what)).append(' ');
        }
        for (int k = 0; k < x.count(0); k++) {
            seen.append('(');
            for (int what = 0; what <= 3; what++) {
                seen.append(x.file(k, what)).append(' ');
            }
            seen.append(x.piece(k, 0, 0)).append(' ').append(x.piece(k, 1, 0)).append(')');
        }
        return seen.toString();
    }
}
