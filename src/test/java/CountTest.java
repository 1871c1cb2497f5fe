/** Promise 9: count of FILES, bytes, pieces, OPERATIONS and the TAPE. */
public final class CountTest {
    public static void main(String[] args) {
        StripeFiles x = new StripeFiles();
        counts(x, 0, 0, 0, 0, 0);
        Due.write(x, "a", 440, Due.many(20, 'a'));
        counts(x, 1, 460, 2, 1, 0);
        Due.write(x, "b", 448 * 4, Due.bytes("b"));
        Due.tape(x, Due.bytes("twelve bytes"));
        counts(x, 2, 460 + 1793, 3, 2, 12);
        Due.is("WRITE over a laid stripe keeps one piece of it", x.run(1, 448 * 4, 0), 12);
        counts(x, 2, 460 + 1804, 3, 3, 0);
        Due.is("EXISTS", x.run(0, 0, 0), -3);
        Due.is("REFUSED", x.run(3, -1, 0), -1);
        Due.tape(x, Due.bytes("12345678901234567890123"));
        counts(x, 2, 460 + 1804, 3, 4, 23);
        Due.is("FULL", x.run(1, 8192, 0), -4);
        counts(x, 2, 460 + 1804, 3, 5, 0);
        Due.is("CUT", x.run(3, 448 * 4, 0), 1804);
        counts(x, 2, 460 + 1792, 2, 6, 0);
        Due.name(x, 1, "a");
        Due.is("RENAME over a", x.run(6, 0, 0), 1);
        counts(x, 1, 1792, 0, 7, 0);
        Due.is("NONE", x.run(8, 0, 0), -2);
        counts(x, 1, 1792, 0, 8, 0);
        int[] wrong = {-1, 5, 6, Integer.MIN_VALUE, Integer.MAX_VALUE};
        for (int what : wrong) {
            Due.is("count(" + what + ")", x.count(what), -1);
        }
        mostPieces();
        Due.finish();
    }

    private static void counts(StripeFiles x, int... want) {
        for (int what = 0; what < want.length; what++) {
            Due.is("count(" + what + ")", x.count(what), want[what]);
        }
    }

    /** As many laid stripes as 48 FILES and 32768 bytes allow, in few calls: 121. */
    private static void mostPieces() {
        StripeFiles x = new StripeFiles();
        for (int k = 0; k < 48; k++) {
            x.feed(k, 0, 0, 0, 0);
            Due.is("name(0)", x.name(0), 20);
            if (k < 4) {
                layLongFile(x);
            } else {
                layShortFile(x, k == 4 ? 438 : 0, k == 4 ? 11 : 1);
            }
        }
        counts(x, 48, 4 * 8065 + 449 + 43, 121, 4 * 10 + 44, 0);
        Due.is("laid of the first", x.file(0, 3), 19);
        Due.is("laid of the fifth", x.file(4, 3), 2);
        Due.is("REMOVE", x.run(5, 0, 0), 1);
        layShortFile(x, 0, 1);
        counts(x, 48, 4 * 8065 + 449 + 43, 121, 4 * 10 + 46, 0);
    }

    /** Twenty bytes over the border of each two stripes, and one in the last stripe. */
    private static void layLongFile(StripeFiles x) {
        for (int s = 0; s < 18; s += 2) {
            x.feed(1, 2, 3, 4, 5);
            Due.is("WRITE", x.run(1, 448 * (s + 1) - 10, 0), 20);
        }
        layShortFile(x, 448 * 18, 1);
    }

    private static void layShortFile(StripeFiles x, int a, int n) {
        x.feed(-1, -1, -1, -1, -1);
        Due.is("end", x.end(n), n);
        Due.is("WRITE", x.run(1, a, 0), n);
    }
}
