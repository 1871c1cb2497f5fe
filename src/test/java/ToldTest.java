/** Promise 6: told answers the bytes of the latest OPERATION, if it is READ or NEXT. */
public final class ToldTest {
    public static void main(String[] args) {
        indexes();
        otherOperationsTellNothing();
        whatIsNoOperationLeavesIt();
        Due.finish();
    }

    private static StripeFiles afterRead() {
        StripeFiles x = new StripeFiles();
        Due.write(x, "f", 0, Due.bytes("\0\u007f\u0080\u00ff"));
        Due.name(x, 1, "g");
        Due.is("READ", x.run(4, 0, 4), 4);
        return x;
    }

    private static void indexes() {
        StripeFiles x = afterRead();
        Due.told(x, "\0\u007f\u0080\u00ff");
        int[] wrong = {-1, 4, 5, 2047, 2048, Integer.MIN_VALUE, Integer.MAX_VALUE};
        for (int i : wrong) {
            Due.is("told(" + i + ")", x.told(i), -2);
        }
        Due.is("READ", x.run(4, 3, 1), 1);
        Due.told(x, "\u00ff");
    }

    private static void otherOperationsTellNothing() {
        int[] kinds = {0, 1, 2, 3, 5, 6, 7, 8, 9};
        int[] answers = {-3, 0, 0, 4, 4, 0, -2, 4, -2};
        for (int i = 0; i < kinds.length; i++) {
            StripeFiles x = afterRead();
            Due.is("run(" + kinds[i] + ", 2, 0)", x.run(kinds[i], 2, 0), answers[i]);
            Due.is("told(0) after kind " + kinds[i], x.told(0), -2);
        }
        StripeFiles x = afterRead();
        Due.name(x, 0, "none");
        Due.is("READ of none", x.run(4, 0, 4), -2);
        Due.is("told(0) after READ of none", x.told(0), -2);
        StripeFiles y = afterRead();
        Due.name(y, 0, "");
        Due.is("NEXT", y.run(9, 0, 0), 1);
        Due.told(y, "f");
        Due.name(y, 0, "f");
        Due.is("SIZE", y.run(8, 0, 0), 4);
        Due.is("told(0) after SIZE", y.told(0), -2);
    }

    private static void whatIsNoOperationLeavesIt() {
        StripeFiles x = afterRead();
        Due.is("READ of too much", x.run(4, 0, 2049), -1);
        Due.is("kind 10", x.run(10, 0, 0), -1);
        Due.told(x, "\0\u007f\u0080\u00ff");
        Due.name(x, 0, "other");
        Due.tape(x, Due.bytes("tape"));
        Due.is("count(0)", x.count(0), 1);
        Due.is("file(0, 0)", x.file(0, 0), 4);
        Due.is("piece(0, 0, 0)", x.piece(0, 0, 0), 0);
        Due.told(x, "\0\u007f\u0080\u00ff");
    }
}
