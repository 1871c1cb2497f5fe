/** Promise 5, CUT: the FILE is shorter or longer, stripes without bytes are laid no more. */
public final class CutTest {
    public static void main(String[] args) {
        shorterAndLonger();
        atTheEdgeOfAStripe();
        aStripeThatKeptAByteStaysLaid();
        fullShelf();
        Due.finish();
    }

    private static void shorterAndLonger() {
        StripeFiles x = new StripeFiles();
        Due.name(x, 0, "f");
        Due.is("CUT of none", x.run(3, 0, 0), -2);
        Due.is("makes none", x.count(0), 0);
        Due.write(x, "f", 0, Due.bytes("abcdef"));
        Due.tape(x, Due.bytes("tape"));
        Due.is("CUT 3", x.run(3, 3, 0), 6);
        Due.is("CUT leaves the TAPE", x.count(4), 4);
        Due.is("CUT 5", x.run(3, 5, 0), 3);
        Due.is("READ", x.run(4, 0, 10), 5);
        Due.told(x, "abc\0\0");
        Due.is("piece", x.piece(0, 0, 4), 0);
        Due.is("piece", x.piece(0, 0, 5), -2);
        Due.is("CUT to what it has", x.run(3, 5, 0), 5);
        Due.is("laid", x.file(0, 3), 1);
        Due.is("CUT 0", x.run(3, 0, 0), 5);
        Due.is("laid", x.file(0, 3), 0);
        Due.is("the FILE stays", x.count(0), 1);
        Due.is("CUT 4", x.run(3, 4, 0), 0);
        Due.is("not laid again", x.file(0, 3), 0);
        Due.is("piece", x.piece(0, 0, 0), -2);
        Due.is("READ", x.run(4, 0, 10), 4);
        Due.told(x, "\0\0\0\0");
    }

    private static void atTheEdgeOfAStripe() {
        StripeFiles x = new StripeFiles();
        Due.write(x, "f", 0, Due.many(1000, 'x'));
        Due.is("laid", x.file(0, 3), 3);
        Due.is("CUT 897", x.run(3, 897, 0), 1000);
        Due.is("laid", x.file(0, 3), 3);
        Due.is("CUT 896", x.run(3, 896, 0), 897);
        Due.is("laid", x.file(0, 3), 2);
        Due.is("piece", x.piece(0, 1, 447), 'x');
        Due.is("CUT 8192", x.run(3, 8192, 0), 896);
        Due.is("laid", x.file(0, 3), 2);
        Due.is("piece", x.piece(0, 2, 0), -2);
        Due.is("CUT 449", x.run(3, 449, 0), 8192);
        Due.write(x, "f", 450, Due.bytes("y"));
        Due.is("READ", x.run(4, 447, 10), 4);
        Due.told(x, "xx\0y");
        // A piece that another stripe had must come without its old bytes.
        Due.is("CUT 448", x.run(3, 448, 0), 451);
        Due.write(x, "g", 448 * 2 + 100, Due.bytes("z"));
        Due.is("piece", x.piece(1, 2, 0), 0);
        Due.is("piece", x.piece(1, 2, 2), 0);
        Due.is("piece", x.piece(1, 2, 100), 'z');
        Due.is("count(2)", x.count(2), 2);
    }

    private static void aStripeThatKeptAByteStaysLaid() {
        StripeFiles x = new StripeFiles();
        Due.make(x, "f");
        Due.is("CUT 460", x.run(3, 460, 0), 0);
        Due.write(x, "f", 470, Due.bytes("w"));
        Due.is("CUT 449 cuts the written byte off", x.run(3, 449, 0), 471);
        Due.is("laid", x.file(0, 3), 1);
        Due.is("stripe 0 was never written", x.piece(0, 0, 0), -2);
        Due.is("stripe 1 was", x.piece(0, 1, 0), 0);
        Due.is("CUT 500", x.run(3, 500, 0), 449);
        Due.is("piece", x.piece(0, 1, 22), 0);
        Due.is("CUT 448", x.run(3, 448, 0), 500);
        Due.is("laid", x.file(0, 3), 0);
        Due.is("CUT 500", x.run(3, 500, 0), 448);
        Due.is("laid", x.file(0, 3), 0);
    }

    private static void fullShelf() {
        StripeFiles x = new StripeFiles();
        for (int k = 0; k < 5; k++) {
            Due.make(x, "f" + k);
            Due.is("CUT", x.run(3, k < 3 ? 8192 : 4096, 0), 0);
        }
        Due.is("count(1)", x.count(1), 32768);
        Due.is("CUT to 32769 in all", x.run(3, 4097, 0), -4);
        Due.is("bytes", x.file(4, 0), 4096);
        Due.is("CUT to what it has", x.run(3, 4096, 0), 4096);
        Due.is("CUT shorter", x.run(3, 4000, 0), 4096);
        Due.is("CUT to 32768 in all", x.run(3, 4096, 0), 4000);
        Due.name(x, 0, "g");
        Due.is("CUT of none", x.run(3, 8192, 0), -2);
    }
}
