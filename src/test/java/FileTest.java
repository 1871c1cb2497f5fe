/** Promise 7: file answers of FILES in the order of their names. */
public final class FileTest {
    public static void main(String[] args) {
        StripeFiles x = new StripeFiles();
        Due.make(x, "mm");
        Due.write(x, "zzz", 448 * 5, Due.many(900, 1));
        Due.write(x, "a", 10, Due.bytes("abc"));
        int[][] want = {{13, 2, 1, 1}, {0, 0, 2, 0}, {3140, 1, 3, 3}};
        for (int k = 0; k < 3; k++) {
            for (int what = 0; what < 4; what++) {
                Due.is("file(" + k + ", " + what + ")", x.file(k, what), want[k][what]);
            }
        }
        int[] noFile = {-1, 3, 48, Integer.MIN_VALUE, Integer.MAX_VALUE};
        int[] wrongWhat = {-1, 4, Integer.MIN_VALUE, Integer.MAX_VALUE};
        for (int k : noFile) {
            for (int what = 0; what < 4; what++) {
                Due.is("file(" + k + ", " + what + ")", x.file(k, what), -2);
            }
            for (int what : wrongWhat) {
                Due.is("REFUSED comes first: file(" + k + ", " + what + ")", x.file(k, what), -1);
            }
        }
        for (int what : wrongWhat) {
            Due.is("file(0, " + what + ")", x.file(0, what), -1);
        }
        Due.is("it is no OPERATION", x.count(3), 3);
        Due.finish();
    }
}
