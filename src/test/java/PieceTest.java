/** Promise 8: piece answers the bytes of laid stripes alone. */
public final class PieceTest {
    private static final int LEAST = Integer.MIN_VALUE, MOST = Integer.MAX_VALUE;

    public static void main(String[] args) {
        StripeFiles x = new StripeFiles();
        Due.write(x, "b", 448 * 2 + 446, Due.bytes("\u0080\u00ffab"));
        Due.write(x, "a", 0, Due.bytes("one"));
        Due.is("first byte of the first FILE", x.piece(0, 0, 0), 'o');
        Due.is("its last byte", x.piece(0, 0, 2), 'e');
        Due.is("no byte behind", x.piece(0, 0, 3), -2);
        Due.is("no stripe behind", x.piece(0, 1, 0), -2);
        Due.is("stripe 0 is not laid", x.piece(1, 0, 0), -2);
        Due.is("stripe 1 is not laid", x.piece(1, 1, 447), -2);
        Due.is("a byte that was not written", x.piece(1, 2, 0), 0);
        Due.is("one that was", x.piece(1, 2, 446), 128);
        Due.is("the last of the stripe", x.piece(1, 2, 447), 255);
        Due.is("no byte 448", x.piece(1, 2, 448), -2);
        Due.is("stripe 3", x.piece(1, 3, 0), 'a');
        Due.is("stripe 3", x.piece(1, 3, 1), 'b');
        Due.is("no byte 2", x.piece(1, 3, 2), -2);
        Due.is("no byte before a stripe", x.piece(1, 3, -1), -2);
        int[] noFile = {-1, 2, 48, LEAST, MOST};
        for (int k : noFile) {
            Due.is("piece(" + k + ", 0, 0)", x.piece(k, 0, 0), -2);
        }
        // 448 times the last of these is 0 again in an int.
        int[] noStripe = {-1, 4, 18, 19, 20, LEAST, MOST, 1 << 26};
        for (int s : noStripe) {
            Due.is("piece(0, " + s + ", 0)", x.piece(0, s, 0), -2);
            Due.is("piece(1, " + s + ", 0)", x.piece(1, s, 0), -2);
        }
        int[] noByte = {-1, -448, 448, 449, LEAST, MOST};
        for (int i : noByte) {
            Due.is("piece(0, 0, " + i + ")", x.piece(0, 0, i), -2);
            Due.is("piece(1, 3, " + i + ")", x.piece(1, 3, i), -2);
        }
        Due.is("it is no OPERATION", x.count(3), 2);
        Due.finish();
    }
}
