/** Promise 5, WRITE and APPEND: where the TAPE comes, what is laid, and what is FULL. */
public final class WriteTest {
    public static void main(String[] args) {
        overAndBehindTheEnd();
        emptyTape();
        gapsAreNotLaid();
        append();
        fullFile();
        fullShelf();
        Due.finish();
    }

    private static void overAndBehindTheEnd() {
        StripeFiles x = new StripeFiles();
        Due.write(x, "f", 0, Due.bytes("abcdef"));
        Due.is("count(4)", x.count(4), 0);
        Due.write(x, "f", 2, Due.bytes("XY"));
        Due.is("bytes after a WRITE inside", x.file(0, 0), 6);
        Due.write(x, "f", 8, Due.bytes("z"));
        Due.is("bytes after a WRITE behind", x.file(0, 0), 9);
        Due.is("READ", x.run(4, 0, 100), 9);
        Due.told(x, "abXYef\0\0z");
        Due.is("ID stays", x.file(0, 1), 0);
    }

    private static void emptyTape() {
        StripeFiles x = new StripeFiles();
        Due.name(x, 0, "f");
        Due.is("WRITE of nothing makes the FILE", x.run(1, 500, 0), 0);
        Due.is("count(0)", x.count(0), 1);
        Due.is("but no bytes", x.file(0, 0), 0);
        Due.is("nor a laid stripe", x.file(0, 3), 0);
        Due.is("CUT", x.run(3, 460, 0), 0);
        Due.is("WRITE of nothing inside", x.run(1, 3, 0), 0);
        Due.is("APPEND of nothing", x.run(2, 0, 0), 0);
        Due.is("bytes", x.file(0, 0), 460);
        Due.is("nothing laid", x.file(0, 3), 0);
        Due.is("WRITE of nothing at the very end", x.run(1, 8192, 0), 0);
        Due.is("bytes then", x.file(0, 0), 460);
    }

    private static void gapsAreNotLaid() {
        StripeFiles x = new StripeFiles();
        Due.write(x, "f", 0, Due.bytes("ab"));
        Due.write(x, "f", 448 * 3 - 1, Due.bytes("cd"));
        Due.is("bytes", x.file(0, 0), 448 * 3 + 1);
        Due.is("laid", x.file(0, 3), 3);
        Due.is("stripe 0", x.piece(0, 0, 1), 'b');
        Due.is("stripe 0 is whole now", x.piece(0, 0, 447), 0);
        Due.is("stripe 1 is not laid", x.piece(0, 1, 0), -2);
        Due.is("stripe 2", x.piece(0, 2, 446), 0);
        Due.is("stripe 2", x.piece(0, 2, 447), 'c');
        Due.is("stripe 3", x.piece(0, 3, 0), 'd');
        Due.is("READ over the gap", x.run(4, 440, 1000), 905);
        Due.is("told before the gap", x.told(0), 0);
        Due.is("told in the gap", x.told(500), 0);
        Due.is("told behind the gap", x.told(903), 'c');
        Due.is("told behind the gap", x.told(904), 'd');
        Due.is("told behind the end", x.told(905), -2);
        Due.write(x, "f", 448, Due.bytes("\0"));
        Due.is("a byte 0 that is written lays the stripe", x.file(0, 3), 4);
        Due.is("stripe 1", x.piece(0, 1, 447), 0);
    }

    private static void append() {
        StripeFiles x = new StripeFiles();
        Due.name(x, 0, "f");
        Due.tape(x, Due.many(448, 'a'));
        Due.is("APPEND makes the FILE", x.run(2, 77, 0), 448);
        Due.is("count(4)", x.count(4), 0);
        Due.is("laid: just one stripe", x.file(0, 3), 1);
        Due.tape(x, Due.bytes("bc"));
        Due.is("APPEND", x.run(2, 0, 0), 2);
        Due.is("bytes", x.file(0, 0), 450);
        Due.is("laid", x.file(0, 3), 2);
        Due.is("piece", x.piece(0, 0, 447), 'a');
        Due.is("piece", x.piece(0, 1, 0), 'b');
        Due.is("piece", x.piece(0, 1, 1), 'c');
    }

    private static void fullFile() {
        StripeFiles x = new StripeFiles();
        Due.write(x, "f", 8191, Due.bytes("a"));
        Due.is("bytes", x.file(0, 0), 8192);
        Due.is("piece", x.piece(0, 18, 127), 'a');
        Due.is("piece", x.piece(0, 18, 128), -2);
        Due.tape(x, Due.bytes("bc"));
        Due.is("WRITE to 8193", x.run(1, 8191, 0), -4);
        Due.is("count(4) after FULL", x.count(4), 0);
        Due.is("nothing was written", x.piece(0, 18, 127), 'a');
        Due.tape(x, Due.bytes("b"));
        Due.is("APPEND to 8193", x.run(2, 0, 0), -4);
        Due.is("count(4) after FULL", x.count(4), 0);
        Due.is("APPEND of nothing", x.run(2, 0, 0), 0);
        Due.is("laid", x.file(0, 3), 1);
        Due.name(x, 0, "g");
        Due.tape(x, Due.bytes("bc"));
        Due.is("WRITE to 8193 of a new FILE", x.run(1, 8191, 0), -4);
        Due.is("makes none", x.count(0), 1);
        Due.is("count(3)", x.count(3), 5);
    }

    private static void fullShelf() {
        StripeFiles x = new StripeFiles();
        for (int k = 0; k < 4; k++) {
            Due.make(x, "f" + k);
            Due.is("CUT", x.run(3, k < 3 ? 8192 : 8190, 0), 0);
        }
        Due.name(x, 0, "g");
        Due.tape(x, Due.bytes("abc"));
        Due.is("WRITE to 32769 in all", x.run(1, 0, 0), -4);
        Due.is("makes none", x.count(0), 4);
        Due.tape(x, Due.bytes("a"));
        Due.is("WRITE with a gap to 32769 in all", x.run(1, 2, 0), -4);
        Due.is("WRITE of nothing", x.run(1, 8192, 0), 0);
        Due.is("makes one", x.count(0), 5);
        Due.tape(x, Due.bytes("ab"));
        Due.is("WRITE to 32768 in all", x.run(1, 0, 0), 2);
        Due.is("count(1)", x.count(1), 32768);
        Due.tape(x, Due.bytes("c"));
        Due.is("APPEND to 32769 in all", x.run(2, 0, 0), -4);
        Due.is("count(4)", x.count(4), 0);
        Due.tape(x, Due.bytes("cd"));
        Due.is("WRITE over what is there", x.run(1, 0, 0), 2);
        Due.tape(x, Due.bytes("ef"));
        Due.is("WRITE one byte too far", x.run(1, 1, 0), -4);
        Due.is("READ", x.run(4, 0, 9), 2);
        Due.told(x, "cd");
        Due.is("count(1)", x.count(1), 32768);
    }
}
