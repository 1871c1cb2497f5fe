/** The sentences of Promises 6 to 9 that name an edge, each with a test of its own. */
public final class AnswersEdgesTest {
    private static final int LEAST = Integer.MIN_VALUE, MOST = Integer.MAX_VALUE;

    public static void main(String[] args) {
        toldIs0To255();
        toldOfNoByte();
        toldOfTheLatestOnly();
        toldOfOtherOperations();
        toldAfterRefused();
        toldAfterNone();
        toldAfterOtherCalls();
        fileInTheOrderOfNames();
        fileIfThereIsNone();
        fileOfAnotherWhat();
        fileRefusesFirst();
        pieceAsItIsKept();
        pieceIfItIsNotLaid();
        pieceOfNoFile();
        pieceOfNoStripe();
        pieceOfNoByte();
        countOfFiles();
        countOfBytes();
        countOfPieces();
        countOfOperations();
        countOfTheTape();
        countOfOthers();
        Due.finish();
    }

    private static StripeFiles afterRead(String words) {
        StripeFiles x = Due.sentence(words);
        Due.write(x, "f", 0, Due.bytes("abc"));
        Due.is("READ", x.run(4, 0, 3), 3);
        return x;
    }

    private static void toldIs0To255() {
        StripeFiles x = Due.sentence("as 0 to 255");
        Due.write(x, "\u0080\u00ff", 0, Due.bytes("\0\u0001\u007f\u0080\u00ff"));
        Due.is("READ", x.run(4, 0, 9), 5);
        Due.told(x, "\0\u0001\u007f\u0080\u00ff");
        Due.name(x, 0, "a");
        Due.is("NEXT", x.run(9, 0, 0), 2);
        Due.told(x, "\u0080\u00ff");
    }

    private static void toldOfNoByte() {
        StripeFiles x = afterRead("Byte i (0 the first) of what the latest OPERATION told");
        Due.is("told(0)", x.told(0), 'a');
        Due.is("told(2)", x.told(2), 'c');
        int[] none = {3, 4, 2047, 2048, -1, LEAST, MOST};
        for (int i : none) {
            Due.is("told(" + i + ")", x.told(i), -2);
        }
        Due.is("READ of 2048", x.run(3, 8192, 0), 3);
        Due.is("READ of 2048", x.run(4, 0, 2048), 2048);
        Due.is("told(2047)", x.told(2047), 0);
        Due.is("told(2048)", x.told(2048), -2);
        Due.is("told(-1)", x.told(-1), -2);
    }

    private static void toldOfTheLatestOnly() {
        StripeFiles x = afterRead("Byte i (0 the first) of what the latest OPERATION told");
        Due.is("a shorter READ", x.run(4, 2, 1), 1);
        Due.told(x, "c");
        Due.is("READ of nothing", x.run(4, 3, 9), 0);
        Due.told(x, "");
        Due.is("name(0) of nothing", x.name(0), 0);
        Due.is("NEXT", x.run(9, 0, 0), 1);
        Due.told(x, "f");
        Due.name(x, 0, "f");
        Due.is("READ", x.run(4, 0, 2), 2);
        Due.told(x, "ab");
    }

    private static void toldOfOtherOperations() {
        int[] kinds = {0, 1, 2, 3, 5, 6, 7, 8};
        int[] answers = {-3, 0, 0, 3, 3, 0, 0, 3};
        for (int i = 0; i < kinds.length; i++) {
            StripeFiles x = afterRead("if it is READ or NEXT");
            Due.name(x, 1, "f");
            Due.is("run(" + kinds[i] + ", 3, 0)", x.run(kinds[i], 3, 0), answers[i]);
            Due.told(x, "");
        }
        StripeFiles x = afterRead("if it is READ or NEXT");
        Due.tape(x, Due.bytes("XY"));
        Due.is("WRITE that is FULL", x.run(1, 8191, 0), -4);
        Due.told(x, "");
        Due.is("name(0) of nothing", x.name(0), 0);
        Due.is("NEXT", x.run(9, 0, 0), 1);
        Due.name(x, 0, "g");
        Due.is("MAKE", x.run(0, 0, 0), 0);
        Due.told(x, "");
    }

    private static void toldAfterRefused() {
        StripeFiles x = afterRead("(what was REFUSED is no OPERATION");
        int[][] refused = {{10, 0, 0}, {1, -1, 0}, {3, 8193, 0}, {4, 0, 2049}, {4, -1, 0}, {6, 0, 0}, {7, 0, 0}};
        for (int[] call : refused) {
            Due.is("run(" + call[0] + ", " + call[1] + ", " + call[2] + ")", x.run(call[0], call[1], call[2]), -1);
            Due.told(x, "abc");
        }
        Due.is("name(0) of nothing", x.name(0), 0);
        Due.is("READ without NAME 0", x.run(4, 0, 3), -1);
        Due.told(x, "abc");
        Due.is("NEXT", x.run(9, 0, 0), 1);
        Due.is("kind -1", x.run(-1, 0, 0), -1);
        Due.told(x, "f");
    }

    private static void toldAfterNone() {
        StripeFiles x = afterRead("one that answered NONE told nothing");
        Due.is("NEXT of the greatest", x.run(9, 0, 0), -2);
        Due.told(x, "");
        Due.is("READ", x.run(4, 0, 3), 3);
        Due.name(x, 0, "g");
        Due.is("READ of none", x.run(4, 0, 3), -2);
        Due.told(x, "");
    }

    private static void toldAfterOtherCalls() {
        StripeFiles x = afterRead("Byte i (0 the first) of what the latest OPERATION told");
        Due.is("feed", x.feed(-1, -1, -1, -1, -1), 20);
        Due.is("end", x.end(4), 4);
        Due.is("name(0)", x.name(0), 4);
        Due.is("count(0)", x.count(0), 1);
        Due.is("file(0, 0)", x.file(0, 0), 3);
        Due.is("piece(0, 0, 0)", x.piece(0, 0, 0), 'a');
        Due.told(x, "abc");
        Due.is("name(0) of nothing", x.name(0), 0);
        Due.is("NEXT", x.run(9, 0, 0), 1);
        Due.name(x, 0, "other");
        Due.told(x, "f");
    }

    private static void fileInTheOrderOfNames() {
        StripeFiles x = Due.sentence("Of FILE k in the order of names");
        Due.write(x, "zz", 440, Due.many(20, 'z'));
        Due.make(x, "mmm");
        Due.write(x, "a", 0, Due.bytes("abc"));
        Due.same("FILES", Due.files(x), "3 463 3 (3 2 1 1 97 -2)(0 1 3 0 -2 -2)(460 0 2 2 0 122)");
    }

    private static void fileIfThereIsNone() {
        StripeFiles x = Due.sentence("NONE if there is none; REFUSED for another what, first.");
        Due.is("file(0, 0) of no FILES", x.file(0, 0), -2);
        Due.make(x, "f");
        int[] none = {1, 48, -1, LEAST, MOST};
        for (int k : none) {
            for (int what = 0; what <= 3; what++) {
                Due.is("file(" + k + ", " + what + ")", x.file(k, what), -2);
            }
        }
        Due.is("REMOVE", x.run(5, 0, 0), 0);
        Due.is("file(0, 0) of one that went", x.file(0, 0), -2);
    }

    private static void fileOfAnotherWhat() {
        StripeFiles x = Due.sentence("REFUSED for another what");
        Due.make(x, "f");
        int[] wrong = {-1, 4, LEAST, MOST};
        for (int what : wrong) {
            Due.is("file(0, " + what + ")", x.file(0, what), -1);
        }
        Due.is("file(0, 0)", x.file(0, 0), 0);
        Due.is("file(0, 3)", x.file(0, 3), 0);
    }

    private static void fileRefusesFirst() {
        StripeFiles x = Due.sentence("REFUSED for another what, first.");
        int[] none = {0, 1, -1, LEAST, MOST};
        for (int k : none) {
            Due.is("file(" + k + ", 4)", x.file(k, 4), -1);
            Due.is("file(" + k + ", -1)", x.file(k, -1), -1);
        }
    }

    private static void pieceAsItIsKept() {
        StripeFiles x = Due.sentence("Byte i of STRIPE s of FILE k, as it is kept.");
        Due.write(x, "b", 446, Due.bytes("\u007f\u0080\u00ff\0"));
        Due.make(x, "a");
        Due.is("a byte that nobody wrote", x.piece(1, 0, 0), 0);
        Due.is("127", x.piece(1, 0, 446), 127);
        Due.is("128", x.piece(1, 0, 447), 128);
        Due.is("255", x.piece(1, 1, 0), 255);
        Due.is("0", x.piece(1, 1, 1), 0);
        Due.write(x, "b", 447, Due.bytes("x"));
        Due.is("written over", x.piece(1, 0, 447), 'x');
        Due.is("its neighbour stays", x.piece(1, 0, 446), 127);
    }

    private static void pieceIfItIsNotLaid() {
        StripeFiles x = Due.sentence("NONE if it is not LAID");
        Due.write(x, "f", 448, Due.bytes("a"));
        Due.is("CUT", x.run(3, 1000, 0), 449);
        int[] places = {0, 1, 447};
        for (int i : places) {
            Due.is("piece(0, 0, " + i + ")", x.piece(0, 0, i), -2);
        }
        Due.is("piece(0, 1, 447)", x.piece(0, 1, 447), 0);
        Due.is("piece(0, 2, 0)", x.piece(0, 2, 0), -2);
    }

    private static void pieceOfNoFile() {
        StripeFiles x = Due.sentence("there is none (no FILE k, no STRIPE s, no byte i of it)");
        Due.is("piece(0, 0, 0) of no FILES", x.piece(0, 0, 0), -2);
        Due.write(x, "f", 0, Due.bytes("a"));
        int[] none = {1, 47, 48, -1, LEAST, MOST};
        for (int k : none) {
            Due.is("piece(" + k + ", 0, 0)", x.piece(k, 0, 0), -2);
        }
        Due.is("REMOVE", x.run(5, 0, 0), 1);
        Due.is("piece(0, 0, 0) of one that went", x.piece(0, 0, 0), -2);
    }

    private static void pieceOfNoStripe() {
        StripeFiles x = Due.sentence("there is none (no FILE k, no STRIPE s, no byte i of it)");
        Due.write(x, "f", 8191, Due.bytes("a"));
        Due.write(x, "f", 0, Due.bytes("b"));
        // 448 times some of these is 0 again in an int.
        int[] none = {19, 20, -1, -19, LEAST, MOST, 1 << 26, 1 << 30, 3 << 26, -(1 << 26)};
        for (int s : none) {
            Due.is("piece(0, " + s + ", 0)", x.piece(0, s, 0), -2);
        }
        Due.write(x, "g", 0, Due.many(448, 'c'));
        Due.is("no STRIPE 1", x.piece(1, 1, 0), -2);
        Due.is("no STRIPE 18", x.piece(1, 18, 0), -2);
    }

    private static void pieceOfNoByte() {
        StripeFiles x = Due.sentence("there is none (no FILE k, no STRIPE s, no byte i of it)");
        Due.write(x, "f", 440, Due.many(20, 'a'));
        int[] none = {448, 449, 459, -1, -448, LEAST, MOST};
        for (int i : none) {
            Due.is("piece(0, 0, " + i + ")", x.piece(0, 0, i), -2);
            Due.is("piece(0, 1, " + i + ")", x.piece(0, 1, i), -2);
        }
        Due.is("the last byte", x.piece(0, 1, 11), 'a');
        Due.is("the byte behind it", x.piece(0, 1, 12), -2);
        Due.is("CUT", x.run(3, 449, 0), 460);
        Due.is("a byte that was cut off", x.piece(0, 1, 1), -2);
    }

    private static void countOfFiles() {
        StripeFiles x = Due.sentence("What 0: FILES");
        Due.is("none", x.count(0), 0);
        Due.makeMany(x, 48);
        Due.is("48", x.count(0), 48);
        Due.is("REMOVE", x.run(5, 0, 0), 0);
        Due.is("47", x.count(0), 47);
    }

    private static void countOfBytes() {
        StripeFiles x = Due.sentence("1: their bytes in all");
        Due.is("none", x.count(1), 0);
        Due.write(x, "a", 0, Due.bytes("abc"));
        Due.write(x, "b", 1000, Due.bytes("d"));
        Due.is("with what nobody wrote", x.count(1), 1004);
        Due.is("CUT", x.run(3, 5, 0), 1001);
        Due.is("after CUT", x.count(1), 8);
        StripeFiles y = new StripeFiles();
        Due.leaveRoom(y, 0);
        Due.is("the most", y.count(1), 32768);
    }

    private static void countOfPieces() {
        StripeFiles x = Due.sentence("2: pieces that are kept, just one of each LAID STRIPE");
        Due.is("none", x.count(2), 0);
        Due.write(x, "a", 440, Due.many(20, 'a'));
        Due.is("two", x.count(2), 2);
        Due.write(x, "a", 440, Due.many(20, 'b'));
        Due.is("written again: two", x.count(2), 2);
        Due.write(x, "b", 448, Due.bytes("c"));
        Due.is("three", x.count(2), 3);
        Due.name(x, 1, "a");
        Due.is("SWAP", x.run(7, 0, 0), 0);
        Due.is("three after SWAP", x.count(2), 3);
        Due.is("RENAME over a", x.run(6, 0, 0), 1);
        Due.is("two after RENAME", x.count(2), 2);
        Due.name(x, 0, "a");
        Due.is("CUT", x.run(3, 448, 0), 460);
        Due.is("one after CUT", x.count(2), 1);
        Due.is("REMOVE", x.run(5, 0, 0), 448);
        Due.is("none after REMOVE", x.count(2), 0);
    }

    private static void countOfOperations() {
        StripeFiles x = Due.sentence("3: OPERATIONS");
        Due.name(x, 1, "g");
        Due.name(x, 0, "f");
        for (int kind = 0; kind <= 9; kind++) {
            x.run(kind, 0, 0);
            Due.is("after kind " + kind, x.count(3), kind + 1);
        }
        x.feed(0, 0, 0, 0, 0);
        x.end(0);
        x.name(1);
        x.told(0);
        x.file(0, 0);
        x.piece(0, 0, 0);
        Due.is("after other calls", x.count(3), 10);
    }

    private static void countOfTheTape() {
        StripeFiles x = Due.sentence("4: bytes on the TAPE");
        Due.is("none", x.count(4), 0);
        Due.is("feed", x.feed(0, 0, 0, 0, 0), 20);
        Due.is("20", x.count(4), 20);
        Due.is("end(7)", x.end(7), 7);
        Due.is("7", x.count(4), 7);
        Due.is("end(8)", x.end(8), -1);
        Due.is("7 still", x.count(4), 7);
        Due.is("name(0)", x.name(0), 7);
        Due.is("none then", x.count(4), 0);
    }

    private static void countOfOthers() {
        StripeFiles x = Due.sentence("REFUSED for others.");
        int[] wrong = {-1, 5, LEAST, MOST};
        for (int what : wrong) {
            Due.is("count(" + what + ")", x.count(what), -1);
        }
    }
}
