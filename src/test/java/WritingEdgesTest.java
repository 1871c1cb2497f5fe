/** The sentences on MAKE, WRITE, APPEND and CUT that name an edge, each with a test of its own. */
public final class WritingEdgesTest {
    public static void main(String[] args) {
        makeGivesNoBytes();
        makeExists();
        makeIsFullFor49th();
        idIsTheNumberOfWhatMakesIt();
        idStaysUnderAnotherName();
        writeEmptiesTheTape();
        writeFromByteA();
        writeMakesTheFile();
        writeLeaves0Between();
        emptyTapeMakesNoFileLonger();
        emptyTapeMakesAFile();
        writeAnswersTheLengthOfTheTape();
        writeIsFullFor49th();
        writeIsFullBeyond8192();
        writeIsFullBeyond32768();
        whatGoesLeavesRoom();
        appendAtTheEnd();
        appendIsFullFor49th();
        appendIsFullBeyond8192();
        appendIsFullBeyond32768();
        cutToABytes();
        cutBringsZeros();
        cutAnswersHowManyBefore();
        cutOfNone();
        cutIsFullIfItGrows();
        cutIsNotFullIfItDoesNotGrow();
        Due.finish();
    }

    private static void makeGivesNoBytes() {
        StripeFiles x = Due.sentence("0 MAKE: a FILE without bytes: 0.");
        Due.name(x, 0, "f");
        Due.tape(x, Due.bytes("abc"));
        Due.is("MAKE", x.run(0, 0, 0), 0);
        Due.is("file(0, 0)", x.file(0, 0), 0);
        Due.is("file(0, 3)", x.file(0, 3), 0);
        Due.is("count(4): the TAPE stays", x.count(4), 3);
    }

    private static void makeExists() {
        StripeFiles x = Due.sentence("EXISTS if there is one with this name");
        Due.write(x, "f", 0, Due.bytes("abc"));
        String before = Due.files(x);
        Due.is("MAKE", x.run(0, 0, 0), -3);
        Due.same("FILES", Due.files(x), before);
        Due.makeMany(x, 47);
        Due.name(x, 0, "f");
        Due.is("MAKE of one of 48", x.run(0, 0, 0), -3);
    }

    private static void makeIsFullFor49th() {
        StripeFiles x = Due.sentence("FULL if it would be the 49th.");
        Due.makeMany(x, 47);
        Due.make(x, "the 48th");
        Due.name(x, 0, "the 49th");
        Due.tape(x, Due.bytes("abc"));
        Due.is("MAKE", x.run(0, 0, 0), -4);
        Due.is("count(0)", x.count(0), 48);
        Due.is("count(4): the TAPE stays", x.count(4), 3);
        Due.is("end(0)", x.end(0), 0);
        Due.name(x, 0, "the 48th");
        Due.is("REMOVE", x.run(5, 0, 0), 0);
        Due.make(x, "the 49th");
        Due.name(x, 1, "fd");
        Due.is("RENAME over another", x.run(6, 0, 0), 1);
        Due.make(x, "one more");
        Due.is("count(0) then", x.count(0), 48);
    }

    private static void idIsTheNumberOfWhatMakesIt() {
        StripeFiles x = Due.sentence("Its ID is the number of the OPERATION that makes it (a WRITE or APPEND, too)");
        Due.make(x, "a");
        Due.write(x, "b", 0, Due.bytes("x"));
        Due.name(x, 0, "c");
        Due.tape(x, Due.bytes("y"));
        Due.is("APPEND", x.run(2, 0, 0), 1);
        for (int k = 0; k < 3; k++) {
            Due.is("file(" + k + ", 1)", x.file(k, 1), k);
        }
        Due.tape(x, Due.bytes("z"));
        Due.is("APPEND to one that is there", x.run(2, 0, 0), 1);
        Due.is("its ID stays", x.file(2, 1), 2);
        Due.write(x, "a", 0, Due.bytes("z"));
        Due.is("WRITE keeps the ID", x.file(0, 1), 0);
        Due.is("REMOVE", x.run(5, 0, 0), 1);
        Due.is("MAKE again", x.run(0, 0, 0), 0);
        Due.is("a new one has a new ID", x.file(0, 1), 6);
    }

    private static void idStaysUnderAnotherName() {
        StripeFiles x = Due.sentence("it keeps that under another name");
        Due.make(x, "a");
        Due.make(x, "b");
        Due.name(x, 0, "a");
        Due.name(x, 1, "c");
        Due.is("RENAME", x.run(6, 0, 0), 0);
        Due.is("ID of b", x.file(0, 1), 1);
        Due.is("ID of c, that was a", x.file(1, 1), 0);
        Due.name(x, 0, "b");
        Due.is("SWAP", x.run(7, 0, 0), 0);
        Due.is("ID of b, that was c", x.file(0, 1), 0);
        Due.is("ID of c, that was b", x.file(1, 1), 1);
        Due.is("RENAME b over c", x.run(6, 0, 0), 1);
        Due.is("ID of c, that was b", x.file(0, 1), 0);
    }

    private static void writeEmptiesTheTape() {
        StripeFiles x = Due.sentence("the TAPE (which is empty then) comes into the FILE");
        Due.write(x, "f", 0, Due.bytes("abc"));
        Due.is("count(4)", x.count(4), 0);
        Due.is("WRITE again: the TAPE is empty", x.run(1, 0, 0), 0);
        Due.tape(x, Due.bytes("d"));
        Due.is("APPEND", x.run(2, 0, 0), 1);
        Due.is("count(4) after APPEND", x.count(4), 0);
    }

    private static void writeFromByteA() {
        StripeFiles x = Due.sentence("comes into the FILE from byte a on");
        Due.write(x, "f", 0, Due.bytes("abcdef"));
        Due.write(x, "f", 0, Due.bytes("A"));
        Due.write(x, "f", 5, Due.bytes("F"));
        Due.write(x, "f", 6, Due.bytes("g"));
        Due.write(x, "f", 2, Due.bytes("CD"));
        Due.write(x, "f", 8, Due.bytes("i"));
        Due.is("READ", x.run(4, 0, 100), 9);
        Due.told(x, "AbCDeFg\0i");
        Due.write(x, "f", 7, Due.bytes("hIjk"));
        Due.is("READ over the end", x.run(4, 6, 100), 5);
        Due.told(x, "ghIjk");
    }

    private static void writeMakesTheFile() {
        StripeFiles x = Due.sentence("(made first if there is none, as MAKE");
        Due.make(x, "a");
        Due.write(x, "b", 3, Due.bytes("xy"));
        Due.is("count(0)", x.count(0), 2);
        Due.is("bytes", x.file(1, 0), 5);
        Due.is("ID", x.file(1, 1), 1);
        Due.is("MAKE", x.run(0, 0, 0), -3);
        Due.write(x, "b", 0, Due.bytes("z"));
        Due.is("one that is there is not made again", x.count(0), 2);
        Due.is("nor cut", x.file(1, 0), 5);
    }

    private static void writeLeaves0Between() {
        StripeFiles x = Due.sentence("what lies between its end and a is 0 then");
        Due.write(x, "f", 0, Due.many(1000, 'a'));
        Due.is("CUT", x.run(3, 2, 0), 1000);
        Due.write(x, "f", 998, Due.bytes("z"));
        Due.is("READ", x.run(4, 0, 5), 5);
        Due.told(x, "aa\0\0\0");
        Due.is("READ over an edge", x.run(4, 446, 4), 4);
        Due.told(x, "\0\0\0\0");
        Due.is("READ over another edge", x.run(4, 894, 4), 4);
        Due.told(x, "\0\0\0\0");
        Due.is("READ of the end", x.run(4, 996, 9), 3);
        Due.told(x, "\0\0z");
        Due.is("piece", x.piece(0, 0, 447), 0);
        Due.is("piece", x.piece(0, 2, 0), 0);
        Due.is("LAID", x.file(0, 3), 2);
    }

    private static void emptyTapeMakesNoFileLonger() {
        StripeFiles x = Due.sentence("an empty TAPE makes no FILE longer");
        Due.write(x, "f", 0, Due.bytes("abc"));
        int[] places = {0, 2, 3, 4, 448, 8191, 8192};
        for (int a : places) {
            Due.is("WRITE " + a, x.run(1, a, 0), 0);
            Due.is("file(0, 0)", x.file(0, 0), 3);
        }
        Due.is("APPEND", x.run(2, 0, 0), 0);
        Due.is("file(0, 0)", x.file(0, 0), 3);
        Due.is("LAID", x.file(0, 3), 1);
        StripeFiles y = new StripeFiles();
        Due.leaveRoom(y, 0);
        Due.is("WRITE at the end of all", y.run(1, 8192, 0), 0);
        Due.is("APPEND at the end of all", y.run(2, 0, 0), 0);
    }

    private static void emptyTapeMakesAFile() {
        StripeFiles x = Due.sentence("an empty TAPE makes no FILE longer");
        Due.name(x, 0, "a");
        Due.is("WRITE 8192", x.run(1, 8192, 0), 0);
        Due.name(x, 0, "b");
        Due.is("APPEND", x.run(2, 8192, 0), 0);
        Due.is("count(0)", x.count(0), 2);
        Due.is("count(1)", x.count(1), 0);
        Due.is("ID of b", x.file(1, 1), 1);
    }

    private static void writeAnswersTheLengthOfTheTape() {
        StripeFiles x = Due.sentence("an empty TAPE makes no FILE longer): the length of the TAPE.");
        Due.name(x, 0, "f");
        Due.is("WRITE of 0", x.run(1, 100, 0), 0);
        Due.tape(x, Due.bytes("a"));
        Due.is("WRITE of 1", x.run(1, 100, 0), 1);
        Due.tape(x, Due.many(2028, 'a'));
        Due.is("feed", x.feed(0, 0, 0, 0, 0), 2048);
        Due.is("WRITE of 2048", x.run(1, 100, 0), 2048);
        Due.is("bytes", x.file(0, 0), 2148);
        Due.tape(x, Due.bytes("bc"));
        Due.is("WRITE over what is there", x.run(1, 0, 0), 2);
    }

    private static void writeIsFullFor49th() {
        StripeFiles x = Due.sentence("FULL if it would be the 49th, or have more than 8192 bytes");
        Due.makeMany(x, 48);
        Due.tape(x, Due.bytes("a"));
        Due.is("WRITE into the 48th", x.run(1, 0, 0), 1);
        Due.name(x, 0, "g");
        Due.tape(x, Due.bytes("a"));
        Due.is("WRITE into the 49th", x.run(1, 0, 0), -4);
        Due.is("count(4)", x.count(4), 0);
        Due.is("WRITE of nothing into the 49th", x.run(1, 0, 0), -4);
        Due.is("count(0)", x.count(0), 48);
        Due.is("count(1)", x.count(1), 1);
        Due.is("count(2)", x.count(2), 1);
    }

    private static void writeIsFullBeyond8192() {
        StripeFiles x = Due.sentence("FULL if it would be the 49th, or have more than 8192 bytes");
        Due.write(x, "f", 8190, Due.bytes("ab"));
        Due.is("bytes", x.file(0, 0), 8192);
        String before = Due.files(x);
        Due.tape(x, Due.bytes("cde"));
        Due.is("WRITE to 8193", x.run(1, 8190, 0), -4);
        Due.is("count(4)", x.count(4), 0);
        Due.same("FILES", Due.files(x), before);
        Due.is("nothing came in", x.piece(0, 18, 126), 'a');
        Due.name(x, 0, "g");
        Due.tape(x, Due.bytes("a"));
        Due.is("WRITE 8192 of one byte", x.run(1, 8192, 0), -4);
        Due.tape(x, Due.bytes("ab"));
        Due.is("WRITE 8191 of two bytes", x.run(1, 8191, 0), -4);
        Due.same("no FILE is made", Due.files(x), before);
        Due.tape(x, Due.bytes("a"));
        Due.is("WRITE 8191 of one byte", x.run(1, 8191, 0), 1);
        Due.is("bytes of g", x.file(1, 0), 8192);
        Due.write(x, "h", 0, Due.bytes("a"));
        Due.tape(x, Due.bytes("bc"));
        Due.is("WRITE to 8193 far behind the end", x.run(1, 8191, 0), -4);
        Due.is("bytes of h stay", x.file(2, 0), 1);
        Due.is("LAID of h stays", x.file(2, 3), 1);
    }

    private static void writeIsFullBeyond32768() {
        StripeFiles x = Due.sentence("or all FILES more than 32768");
        Due.leaveRoom(x, 3);
        String before = Due.files(x);
        Due.name(x, 0, "g");
        Due.tape(x, Due.bytes("abcd"));
        Due.is("WRITE of four bytes", x.run(1, 0, 0), -4);
        Due.is("count(4)", x.count(4), 0);
        Due.tape(x, Due.bytes("a"));
        Due.is("WRITE of one byte, three behind", x.run(1, 3, 0), -4);
        Due.same("no FILE is made", Due.files(x), before);
        Due.tape(x, Due.bytes("a"));
        Due.is("WRITE of one byte, two behind", x.run(1, 2, 0), 1);
        Due.is("count(1)", x.count(1), 32768);
        Due.tape(x, Due.bytes("bc"));
        Due.is("WRITE over what is there", x.run(1, 1, 0), 2);
        Due.tape(x, Due.bytes("de"));
        Due.is("WRITE over the end", x.run(1, 2, 0), -4);
        Due.is("READ", x.run(4, 0, 9), 3);
        Due.told(x, "\0bc");
    }

    private static void whatGoesLeavesRoom() {
        StripeFiles x = Due.sentence("or all FILES more than 32768");
        Due.leaveRoom(x, 0);
        Due.make(x, "g");
        Due.name(x, 1, "f0");
        Due.is("RENAME over one of 8192 bytes", x.run(6, 0, 0), 1);
        Due.name(x, 0, "f0");
        Due.tape(x, Due.bytes("z"));
        Due.is("WRITE in its room", x.run(1, 8191, 0), 1);
        Due.is("CUT", x.run(3, 8190, 0), 8192);
        Due.name(x, 0, "h");
        Due.tape(x, Due.bytes("abc"));
        Due.is("WRITE of more than was cut off", x.run(1, 0, 0), -4);
        Due.tape(x, Due.bytes("ab"));
        Due.is("WRITE of what was cut off", x.run(1, 0, 0), 2);
        Due.is("count(1)", x.count(1), 32768);
    }

    private static void appendAtTheEnd() {
        StripeFiles x = Due.sentence("2 APPEND: as WRITE, at its end.");
        Due.name(x, 0, "f");
        int[] places = {500, 0, 8192, -1, 8193, Integer.MIN_VALUE, Integer.MAX_VALUE};
        for (int i = 0; i < places.length; i++) {
            Due.tape(x, Due.bytes("" + (char) ('a' + i)));
            Due.is("APPEND " + places[i], x.run(2, places[i], places[i]), 1);
            Due.is("bytes", x.file(0, 0), i + 1);
        }
        Due.is("READ", x.run(4, 0, 9), 7);
        Due.told(x, "abcdefg");
        Due.is("CUT", x.run(3, 448, 0), 7);
        Due.tape(x, Due.bytes("z"));
        Due.is("APPEND at an edge", x.run(2, 0, 0), 1);
        Due.is("piece", x.piece(0, 1, 0), 'z');
        Due.is("LAID", x.file(0, 3), 2);
    }

    private static void appendIsFullFor49th() {
        StripeFiles x = Due.sentence("2 APPEND: as WRITE, at its end.");
        Due.makeMany(x, 48);
        Due.tape(x, Due.bytes("a"));
        Due.is("APPEND to the 48th", x.run(2, 0, 0), 1);
        Due.name(x, 0, "g");
        Due.tape(x, Due.bytes("a"));
        Due.is("APPEND to the 49th", x.run(2, 0, 0), -4);
        Due.is("count(4)", x.count(4), 0);
        Due.is("APPEND of nothing to the 49th", x.run(2, 0, 0), -4);
        Due.is("count(0)", x.count(0), 48);
        Due.is("count(1)", x.count(1), 1);
    }

    private static void appendIsFullBeyond8192() {
        StripeFiles x = Due.sentence("2 APPEND: as WRITE, at its end.");
        Due.make(x, "f");
        Due.is("CUT", x.run(3, 8190, 0), 0);
        Due.tape(x, Due.bytes("abc"));
        Due.is("APPEND to 8193", x.run(2, 0, 0), -4);
        Due.is("count(4)", x.count(4), 0);
        Due.is("bytes", x.file(0, 0), 8190);
        Due.is("LAID", x.file(0, 3), 0);
        Due.tape(x, Due.bytes("ab"));
        Due.is("APPEND to 8192", x.run(2, 0, 0), 2);
        Due.is("bytes then", x.file(0, 0), 8192);
        Due.is("APPEND of nothing", x.run(2, 0, 0), 0);
    }

    private static void appendIsFullBeyond32768() {
        StripeFiles x = Due.sentence("2 APPEND: as WRITE, at its end.");
        Due.leaveRoom(x, 2);
        Due.name(x, 0, "g");
        Due.tape(x, Due.bytes("abc"));
        Due.is("APPEND of three bytes", x.run(2, 0, 0), -4);
        Due.is("count(4)", x.count(4), 0);
        Due.is("count(0)", x.count(0), 4);
        Due.tape(x, Due.bytes("ab"));
        Due.is("APPEND of two bytes", x.run(2, 0, 0), 2);
        Due.is("count(1)", x.count(1), 32768);
        Due.tape(x, Due.bytes("c"));
        Due.is("APPEND of one more", x.run(2, 0, 0), -4);
        Due.is("count(1) then", x.count(1), 32768);
    }

    private static void cutToABytes() {
        StripeFiles x = Due.sentence("3 CUT a: the FILE has a bytes then");
        Due.write(x, "f", 0, Due.many(900, 'a'));
        int[] lengths = {899, 896, 897, 448, 447, 449, 1, 0, 8192, 8192, 8191};
        int before = 900;
        for (int a : lengths) {
            Due.is("CUT " + a, x.run(3, a, 0), before);
            Due.is("bytes", x.file(0, 0), a);
            Due.is("SIZE", x.run(8, 0, 0), a);
            before = a;
        }
        Due.is("the FILE stays with its ID", x.file(0, 1), 0);
    }

    private static void cutBringsZeros() {
        StripeFiles x = Due.sentence("the FILE has a bytes then (new ones are 0)");
        Due.write(x, "f", 0, Due.many(900, 'a'));
        Due.is("CUT 446", x.run(3, 446, 0), 900);
        Due.is("CUT 900", x.run(3, 900, 0), 446);
        Due.is("READ", x.run(4, 444, 6), 6);
        Due.told(x, "aa\0\0\0\0");
        Due.is("READ of the end", x.run(4, 894, 9), 6);
        Due.told(x, "\0\0\0\0\0\0");
        Due.is("piece", x.piece(0, 0, 446), 0);
        Due.is("new STRIPES are not LAID", x.file(0, 3), 1);
        Due.is("CUT 8192", x.run(3, 8192, 0), 900);
        Due.is("READ of the last", x.run(4, 8191, 1), 1);
        Due.told(x, "\0");
    }

    private static void cutAnswersHowManyBefore() {
        StripeFiles x = Due.sentence("(new ones are 0): how many before.");
        Due.make(x, "f");
        Due.is("CUT of no bytes to none", x.run(3, 0, 0), 0);
        Due.is("CUT of no bytes to 5", x.run(3, 5, 0), 0);
        Due.is("CUT of 5 to 5", x.run(3, 5, 0), 5);
        Due.is("CUT of 5 to 8192", x.run(3, 8192, 0), 5);
        Due.is("CUT of 8192 to none", x.run(3, 0, 0), 8192);
    }

    private static void cutOfNone() {
        StripeFiles x = Due.sentence("NONE if there is none.");
        Due.name(x, 0, "f");
        Due.is("CUT 0", x.run(3, 0, 0), -2);
        Due.is("CUT 5", x.run(3, 5, 0), -2);
        Due.is("count(0): it makes none", x.count(0), 0);
        Due.leaveRoom(x, 0);
        Due.name(x, 0, "g");
        Due.is("CUT 8192, where all is full", x.run(3, 8192, 0), -2);
    }

    private static void cutIsFullIfItGrows() {
        StripeFiles x = Due.sentence("FULL as for WRITE, if it grows.");
        Due.leaveRoom(x, 5);
        Due.make(x, "g");
        Due.tape(x, Due.bytes("abc"));
        Due.is("CUT 6", x.run(3, 6, 0), -4);
        Due.is("CUT 8192", x.run(3, 8192, 0), -4);
        Due.is("bytes", x.file(4, 0), 0);
        Due.is("count(4): the TAPE stays", x.count(4), 3);
        Due.is("CUT 5", x.run(3, 5, 0), 0);
        Due.is("count(1)", x.count(1), 32768);
        Due.is("CUT 6 of 5", x.run(3, 6, 0), -4);
    }

    private static void cutIsNotFullIfItDoesNotGrow() {
        StripeFiles x = Due.sentence("FULL as for WRITE, if it grows.");
        Due.leaveRoom(x, 0);
        Due.is("CUT to what it has", x.run(3, 8192, 0), 8192);
        Due.is("CUT shorter", x.run(3, 8191, 0), 8192);
        Due.is("CUT to fill it again", x.run(3, 8192, 0), 8191);
        Due.is("CUT 0", x.run(3, 0, 0), 8192);
        Due.is("count(1)", x.count(1), 24576);
    }
}
