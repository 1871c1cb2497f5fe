/** Promise 5: what run refuses, and that this changes nothing and is no OPERATION. */
public final class RunRefusedTest {
    private static final int LEAST = Integer.MIN_VALUE, MOST = Integer.MAX_VALUE;

    public static void main(String[] args) {
        kinds();
        emptyNames();
        placesAndLengths();
        nothingChanges();
        Due.finish();
    }

    private static void kinds() {
        StripeFiles x = new StripeFiles();
        Due.make(x, "f");
        int[] wrong = {-1, 10, 11, LEAST, MOST};
        for (int kind : wrong) {
            Due.is("run(" + kind + ", 0, 0)", x.run(kind, 0, 0), -1);
        }
        Due.is("count(3)", x.count(3), 1);
    }

    private static void emptyNames() {
        StripeFiles x = new StripeFiles();
        Due.name(x, 1, "one");
        for (int kind = 0; kind <= 8; kind++) {
            Due.is("run(" + kind + ", 0, 0) without NAME 0", x.run(kind, 0, 0), -1);
        }
        Due.is("NEXT without NAME 0", x.run(9, 0, 0), -2);
        Due.is("name(1)", x.name(1), 0);
        Due.make(x, "zero");
        Due.is("RENAME without NAME 1", x.run(6, 0, 0), -1);
        Due.is("SWAP without NAME 1", x.run(7, 0, 0), -1);
        Due.is("REMOVE without NAME 1", x.run(5, 0, 0), 0);
        Due.is("count(3)", x.count(3), 3);
    }

    private static void placesAndLengths() {
        StripeFiles x = new StripeFiles();
        Due.make(x, "f");
        int[] wrong = {-1, 8193, LEAST, MOST};
        for (int a : wrong) {
            Due.is("WRITE " + a, x.run(1, a, 0), -1);
            Due.is("CUT " + a, x.run(3, a, 0), -1);
            Due.is("READ " + a, x.run(4, a, 0), -1);
        }
        int[] wrongLengths = {-1, 2049, LEAST, MOST};
        for (int b : wrongLengths) {
            Due.is("READ 0, " + b, x.run(4, 0, b), -1);
        }
        Due.is("count(3)", x.count(3), 1);
        Due.is("WRITE 8192 of nothing", x.run(1, 8192, -1), 0);
        Due.is("CUT 8192", x.run(3, 8192, LEAST), 0);
        Due.is("READ 8192, 2048", x.run(4, 8192, 2048), 0);
        Due.is("READ 0, 2048", x.run(4, 0, 2048), 2048);
        Due.is("APPEND looks at no a", x.run(2, -1, -1), 0);
        Due.is("MAKE looks at no a", x.run(0, MOST, LEAST), -3);
        Due.is("SIZE looks at no a", x.run(8, LEAST, MOST), 8192);
        Due.is("NEXT looks at no a", x.run(9, -1, -1), -2);
        Due.is("REMOVE looks at no a", x.run(5, 8193, 2049), 8192);
        Due.name(x, 1, "g");
        Due.is("RENAME looks at no a", x.run(6, -1, -1), -2);
        Due.is("SWAP looks at no a", x.run(7, -1, -1), -2);
    }

    private static void nothingChanges() {
        StripeFiles x = new StripeFiles();
        Due.write(x, "f", 0, Due.bytes("text"));
        Due.is("READ", x.run(4, 0, 4), 4);
        Due.tape(x, Due.bytes("tape"));
        Due.is("WRITE -1", x.run(1, -1, 0), -1);
        Due.is("WRITE 8193", x.run(1, 8193, 0), -1);
        Due.is("kind 10", x.run(10, 0, 0), -1);
        Due.is("RENAME without NAME 1", x.run(6, 0, 0), -1);
        Due.is("count(4)", x.count(4), 4);
        Due.is("count(3)", x.count(3), 2);
        Due.is("count(1)", x.count(1), 4);
        Due.told(x, "text");
        Due.is("MAKE after what was REFUSED", x.run(0, 0, 0), -3);
        Due.is("the next number", x.count(3), 3);
    }
}
