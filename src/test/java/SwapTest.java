/** Promise 5, SWAP: two FILES change their names. */
public final class SwapTest {
    public static void main(String[] args) {
        StripeFiles x = new StripeFiles();
        Due.write(x, "long name", 0, Due.bytes("first"));
        Due.make(x, "m");
        Due.write(x, "z", 448, Due.bytes("second"));
        Due.name(x, 0, "long name");
        Due.name(x, 1, "none");
        Due.is("SWAP with none", x.run(7, 0, 0), -2);
        Due.name(x, 1, "z");
        Due.tape(x, Due.bytes("tape"));
        Due.is("SWAP", x.run(7, 0, 0), 0);
        Due.is("SWAP leaves the TAPE", x.count(4), 4);
        Due.is("end(0)", x.end(0), 0);
        int[][] want = {{454, 2, 9, 1}, {0, 1, 1, 0}, {5, 0, 1, 1}};
        for (int k = 0; k < 3; k++) {
            for (int what = 0; what < 4; what++) {
                Due.is("file(" + k + ", " + what + ")", x.file(k, what), want[k][what]);
            }
        }
        Due.is("piece", x.piece(0, 0, 0), -2);
        Due.is("piece", x.piece(0, 1, 0), 's');
        Due.is("SIZE of long name", x.run(8, 0, 0), 454);
        Due.is("SWAP back", x.run(7, 0, 0), 0);
        Due.is("SIZE of long name", x.run(8, 0, 0), 5);
        Due.is("file(2, 1)", x.file(2, 1), 2);
        Due.name(x, 0, "z");
        Due.name(x, 1, "long name");
        Due.is("SWAP with the first in order", x.run(7, 0, 0), 0);
        Due.is("SIZE of z", x.run(8, 0, 0), 5);
        Due.is("SWAP back", x.run(7, 0, 0), 0);
        Due.name(x, 0, "none");
        Due.is("SWAP of none", x.run(7, 0, 0), -2);
        Due.name(x, 1, "none");
        Due.is("SWAP of none with itself", x.run(7, 0, 0), -2);
        Due.name(x, 0, "m");
        Due.name(x, 1, "m");
        Due.is("SWAP with itself", x.run(7, 0, 0), 0);
        Due.is("file(1, 2)", x.file(1, 2), 1);
        Due.is("file(1, 1)", x.file(1, 1), 1);
        Due.is("count(0)", x.count(0), 3);
        Due.is("count(3)", x.count(3), 14);
        Due.finish();
    }
}
