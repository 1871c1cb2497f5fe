/** The sentences on FILES, STRIPES, LAID and the numbers of OPERATIONS that name an edge, and Promise 1. */
public final class FilesEdgesTest {
    public static void main(String[] args) {
        noFilesAtFirst();
        objectsShareNothing();
        usedFor512Calls();
        atMost48();
        namesOf1To200();
        noTwoNamesAreTheSame();
        orderOfBytes0To255();
        orderIsByTheFirstDifference();
        aBeginningBeforeWhatIsLonger();
        upTo8192Bytes();
        allTogether32768();
        stripesOf448();
        lastStripeHasWhatThereIs();
        laidByOneByte();
        laidFromEdgeToEdge();
        laidByWriteAndAppendAlone();
        laidNoMoreWithoutAByte();
        laidWhileThereIsAByte();
        laidStripesGoWithTheirFile();
        operationsAreNumberedFrom0();
        Due.finish();
    }

    private static void noFilesAtFirst() {
        StripeFiles x = Due.sentence("No FILES.");
        Due.is("count(0)", x.count(0), 0);
        Due.is("count(1)", x.count(1), 0);
        Due.is("count(2)", x.count(2), 0);
        Due.is("count(3)", x.count(3), 0);
        Due.is("file(0, 0)", x.file(0, 0), -2);
        Due.is("piece(0, 0, 0)", x.piece(0, 0, 0), -2);
        Due.is("told(0)", x.told(0), -2);
        Due.is("NEXT", x.run(9, 0, 0), -2);
    }

    private static void objectsShareNothing() {
        StripeFiles x = Due.sentence("No FILES.");
        Due.write(x, "f", 0, Due.bytes("abc"));
        Due.is("READ", x.run(4, 0, 3), 3);
        Due.tape(x, Due.bytes("tape"));
        StripeFiles y = new StripeFiles();
        for (int what = 0; what <= 4; what++) {
            Due.is("count(" + what + ") of another object", y.count(what), 0);
        }
        Due.is("told(0) of another object", y.told(0), -2);
        Due.make(y, "g");
        Due.is("count(0) of the first", x.count(0), 1);
        Due.is("count(4) of the first", x.count(4), 4);
        Due.told(x, "abc");
    }

    private static void usedFor512Calls() {
        StripeFiles x = Due.sentence("An object is used for at most 512 calls after it has been made");
        x.feed('f' << 24, 0, 0, 0, 0);
        x.name(0);
        for (int i = 0; i < 508; i++) {
            Due.is("call " + (i + 3), x.run(i % 2 == 0 ? 0 : 5, 0, 0), 0);
        }
        Due.is("MAKE as call 511", x.run(0, 0, 0), 0);
        Due.is("its ID as call 512", x.file(0, 1), 508);
    }

    private static void atMost48() {
        StripeFiles x = Due.sentence("FILES, at most 48");
        Due.makeMany(x, 48);
        Due.is("count(0)", x.count(0), 48);
        Due.is("file(47, 1)", x.file(47, 1), 47);
        Due.name(x, 0, "g");
        Due.is("MAKE one more", x.run(0, 0, 0), -4);
        Due.is("count(0) then", x.count(0), 48);
    }

    private static void namesOf1To200() {
        StripeFiles x = Due.sentence("each have a name (1 to 200 bytes");
        Due.is("MAKE with no byte", x.run(0, 0, 0), -1);
        Due.make(x, "\0");
        Due.is("file(0, 2)", x.file(0, 2), 1);
        Due.name(x, 0, Due.many(200, 'n'));
        Due.is("MAKE with 200 bytes", x.run(0, 0, 0), 0);
        Due.is("file(1, 2)", x.file(1, 2), 200);
        Due.is("SIZE", x.run(8, 0, 0), 0);
        Due.is("name(0) of nothing", x.name(0), 0);
        Due.is("MAKE with no byte", x.run(0, 0, 0), -1);
        Due.is("count(0)", x.count(0), 2);
    }

    private static void noTwoNamesAreTheSame() {
        StripeFiles x = Due.sentence("no two the same");
        byte[] one = Due.many(200, 'n');
        byte[] other = one.clone();
        other[199] = 'o';
        Due.name(x, 0, one);
        Due.is("MAKE", x.run(0, 0, 0), 0);
        Due.is("MAKE the same", x.run(0, 0, 0), -3);
        Due.name(x, 0, other);
        Due.is("MAKE with another last byte", x.run(0, 0, 0), 0);
        Due.name(x, 0, Due.many(199, 'n'));
        Due.is("MAKE one byte shorter", x.run(0, 0, 0), 0);
        Due.name(x, 0, other);
        Due.is("MAKE the same again", x.run(0, 0, 0), -3);
        Due.is("count(0)", x.count(0), 3);
        Due.is("WRITE makes no other", x.run(1, 0, 0), 0);
        Due.is("APPEND makes no other", x.run(2, 0, 0), 0);
        Due.is("count(0) then", x.count(0), 3);
    }

    private static void orderOfBytes0To255() {
        StripeFiles x = Due.sentence("they are ordered by their bytes, 0 to 255");
        int[] made = {128, 255, 0, 127, 1, 254, 64};
        int[] ordered = {0, 1, 64, 127, 128, 254, 255};
        for (int value : made) {
            Due.make(x, "" + (char) value);
        }
        for (int k = 0; k < ordered.length; k++) {
            Due.is("the name of FILE " + k, made[x.file(k, 1)], ordered[k]);
        }
    }

    private static void orderIsByTheFirstDifference() {
        StripeFiles x = Due.sentence("they are ordered by their bytes, 0 to 255");
        Due.make(x, "b");
        Due.make(x, "aaaaaaaaaaaaaaaaaaaaaaaaaaaaa");
        Due.make(x, "a\u00ffa");
        Due.make(x, "ab\u00ff");
        int[] ids = {1, 3, 2, 0};
        for (int k = 0; k < ids.length; k++) {
            Due.is("file(" + k + ", 1)", x.file(k, 1), ids[k]);
        }
        byte[] late = Due.many(200, 'c');
        Due.name(x, 0, late);
        Due.is("MAKE", x.run(0, 0, 0), 0);
        late[199] = 'b';
        Due.name(x, 0, late);
        Due.is("MAKE with a lesser last byte", x.run(0, 0, 0), 0);
        Due.is("the lesser", x.file(4, 1), 5);
        Due.is("the greater", x.file(5, 1), 4);
    }

    private static void aBeginningBeforeWhatIsLonger() {
        StripeFiles x = Due.sentence("a beginning before what is longer");
        Due.make(x, "ab\0");
        Due.make(x, "ab");
        Due.make(x, "a");
        Due.make(x, "ab\0\0");
        int[] ids = {2, 1, 0, 3};
        for (int k = 0; k < ids.length; k++) {
            Due.is("file(" + k + ", 1)", x.file(k, 1), ids[k]);
        }
    }

    private static void upTo8192Bytes() {
        StripeFiles x = Due.sentence("an ID and up to 8192 bytes");
        Due.write(x, "f", 8191, Due.bytes("a"));
        Due.is("file(0, 0)", x.file(0, 0), 8192);
        Due.tape(x, Due.bytes("b"));
        Due.is("APPEND of one more", x.run(2, 0, 0), -4);
        Due.tape(x, Due.bytes("b"));
        Due.is("WRITE of one more", x.run(1, 8192, 0), -4);
        Due.is("CUT to one more", x.run(3, 8193, 0), -1);
        Due.is("file(0, 0) then", x.file(0, 0), 8192);
    }

    private static void allTogether32768() {
        StripeFiles x = Due.sentence("all together at most 32768");
        Due.leaveRoom(x, 0);
        Due.is("count(1)", x.count(1), 32768);
        Due.make(x, "g");
        Due.tape(x, Due.bytes("a"));
        Due.is("WRITE of one more", x.run(1, 0, 0), -4);
        Due.tape(x, Due.bytes("a"));
        Due.is("APPEND of one more", x.run(2, 0, 0), -4);
        Due.is("CUT to one more", x.run(3, 1, 0), -4);
        Due.is("count(1) then", x.count(1), 32768);
    }

    private static void stripesOf448() {
        StripeFiles x = Due.sentence("STRIPE s of a FILE has its bytes from 448 s on");
        Due.write(x, "f", 446, Due.bytes("abcd"));
        Due.write(x, "f", 448 * 18 - 1, Due.bytes("ef"));
        Due.is("byte 447", x.piece(0, 0, 447), 'b');
        Due.is("byte 448", x.piece(0, 1, 0), 'c');
        Due.is("no byte 448 of a STRIPE", x.piece(0, 0, 448), -2);
        Due.is("the last of STRIPE 17", x.piece(0, 17, 447), 'e');
        Due.is("the first of STRIPE 18", x.piece(0, 18, 0), 'f');
        Due.is("LAID", x.file(0, 3), 4);
    }

    private static void lastStripeHasWhatThereIs() {
        StripeFiles x = Due.sentence("(up to 448, as far as there are)");
        Due.write(x, "f", 8191, Due.bytes("z"));
        Due.is("byte 8191", x.piece(0, 18, 127), 'z');
        Due.is("no byte 8192", x.piece(0, 18, 128), -2);
        Due.is("no STRIPE 19", x.piece(0, 19, 0), -2);
        Due.write(x, "g", 0, Due.many(448, 'y'));
        Due.is("byte 447 of the other", x.piece(1, 0, 447), 'y');
        Due.is("no STRIPE 1 of the other", x.piece(1, 1, 0), -2);
        Due.is("just one is LAID", x.file(1, 3), 1);
    }

    private static void laidByOneByte() {
        StripeFiles x = Due.sentence("It is LAID if one of its bytes was written by WRITE or APPEND");
        Due.make(x, "f");
        Due.is("CUT", x.run(3, 448 * 4, 0), 0);
        Due.write(x, "f", 448, Due.bytes("\0"));
        Due.is("by a 0 at its first place", x.file(0, 3), 1);
        Due.write(x, "f", 448 * 4 - 1, Due.bytes("\0"));
        Due.is("by a 0 at its last place", x.file(0, 3), 2);
        Due.is("STRIPE 0", x.piece(0, 0, 447), -2);
        Due.is("STRIPE 1", x.piece(0, 1, 447), 0);
        Due.is("STRIPE 2", x.piece(0, 2, 0), -2);
        Due.is("STRIPE 3", x.piece(0, 3, 0), 0);
        Due.write(x, "f", 460, Due.bytes("x"));
        Due.is("once more is no more", x.file(0, 3), 2);
        Due.tape(x, Due.bytes("\0"));
        Due.is("APPEND", x.run(2, 0, 0), 1);
        Due.is("by APPEND", x.file(0, 3), 3);
    }

    private static void laidFromEdgeToEdge() {
        StripeFiles x = Due.sentence("It is LAID if one of its bytes was written by WRITE or APPEND");
        Due.make(x, "f");
        Due.is("CUT", x.run(3, 448 * 3, 0), 0);
        Due.write(x, "f", 448, Due.many(448, 'a'));
        Due.is("just STRIPE 1", x.file(0, 3), 1);
        Due.is("STRIPE 0", x.piece(0, 0, 447), -2);
        Due.is("STRIPE 1, its first", x.piece(0, 1, 0), 'a');
        Due.is("STRIPE 1, its last", x.piece(0, 1, 447), 'a');
        Due.is("STRIPE 2", x.piece(0, 2, 0), -2);
        Due.tape(x, Due.bytes("b"));
        Due.is("APPEND from an edge on", x.run(2, 0, 0), 1);
        Due.is("STRIPE 2 still", x.piece(0, 2, 447), -2);
        Due.is("STRIPE 3", x.piece(0, 3, 0), 'b');
        Due.write(x, "g", 447, Due.many(2040, 'c'));
        Due.is("six STRIPES by one TAPE", x.file(1, 3), 6);
        Due.is("bytes", x.file(1, 0), 2487);
    }

    private static void laidByWriteAndAppendAlone() {
        StripeFiles x = Due.sentence("It is LAID if one of its bytes was written by WRITE or APPEND");
        Due.make(x, "f");
        Due.is("CUT", x.run(3, 1000, 0), 0);
        Due.is("CUT lays none", x.count(2), 0);
        Due.is("READ", x.run(4, 0, 1000), 1000);
        Due.is("READ lays none", x.count(2), 0);
        Due.is("WRITE of nothing", x.run(1, 0, 0), 0);
        Due.is("WRITE of nothing lays none", x.count(2), 0);
        Due.is("APPEND of nothing", x.run(2, 0, 0), 0);
        Due.is("APPEND of nothing lays none", x.count(2), 0);
        Due.write(x, "f", 448 * 5, Due.bytes("a"));
        Due.is("what lies between is not LAID", x.count(2), 1);
        Due.is("piece of what lies between", x.piece(0, 4, 447), -2);
        Due.tape(x, Due.bytes("bc"));
        Due.is("WRITE that is FULL", x.run(1, 8191, 0), -4);
        Due.is("FULL lays none", x.count(2), 1);
    }

    private static void laidNoMoreWithoutAByte() {
        StripeFiles x = Due.sentence("and it had a byte ever since");
        Due.write(x, "f", 440, Due.many(20, 'a'));
        Due.is("LAID", x.file(0, 3), 2);
        Due.is("CUT to the edge", x.run(3, 448, 0), 460);
        Due.is("LAID without STRIPE 1", x.file(0, 3), 1);
        Due.is("CUT longer again", x.run(3, 460, 0), 448);
        Due.is("STRIPE 1 is not LAID again", x.file(0, 3), 1);
        Due.is("piece", x.piece(0, 1, 0), -2);
        Due.is("CUT 0", x.run(3, 0, 0), 460);
        Due.is("CUT 460", x.run(3, 460, 0), 0);
        Due.is("none is LAID", x.file(0, 3), 0);
        Due.write(x, "f", 450, Due.bytes("b"));
        Due.is("written again: LAID again", x.file(0, 3), 1);
        Due.is("without its old bytes", x.piece(0, 1, 0), 0);
    }

    private static void laidWhileThereIsAByte() {
        StripeFiles x = Due.sentence("and it had a byte ever since");
        Due.make(x, "f");
        Due.write(x, "f", 448 + 447, Due.bytes("a"));
        Due.is("CUT to its first byte, which nobody wrote", x.run(3, 449, 0), 896);
        Due.is("LAID", x.file(0, 3), 1);
        Due.is("its first byte", x.piece(0, 1, 0), 0);
        Due.is("no second byte", x.piece(0, 1, 1), -2);
        Due.is("CUT longer", x.run(3, 896, 0), 449);
        Due.is("LAID still", x.file(0, 3), 1);
        Due.is("what was cut off is 0", x.piece(0, 1, 447), 0);
    }

    private static void laidStripesGoWithTheirFile() {
        StripeFiles x = Due.sentence("and it had a byte ever since");
        Due.write(x, "a", 448, Due.bytes("x"));
        Due.make(x, "b");
        Due.name(x, 0, "a");
        Due.name(x, 1, "b");
        Due.is("SWAP", x.run(7, 0, 0), 0);
        Due.is("LAID of a", x.file(0, 3), 0);
        Due.is("LAID of b", x.file(1, 3), 1);
        Due.is("piece of b", x.piece(1, 1, 0), 'x');
        Due.is("RENAME a over b", x.run(6, 0, 0), 1);
        Due.is("no piece is left", x.count(2), 0);
        Due.write(x, "b", 448, Due.bytes("x"));
        Due.is("REMOVE", x.run(5, 0, 0), 449);
        Due.is("no piece is left", x.count(2), 0);
        Due.is("MAKE", x.run(0, 0, 0), 0);
        Due.is("CUT", x.run(3, 449, 0), 0);
        Due.is("a new FILE has none LAID", x.file(0, 3), 0);
        Due.is("READ", x.run(4, 448, 1), 1);
        Due.told(x, "\0");
    }

    private static void operationsAreNumberedFrom0() {
        StripeFiles x = Due.sentence("OPERATIONS are numbered from 0 as they are done");
        Due.make(x, "a");
        Due.is("the first has number 0", x.file(0, 1), 0);
        Due.is("count(3)", x.count(3), 1);
        Due.is("EXISTS has number 1", x.run(0, 0, 0), -3);
        Due.name(x, 0, "b");
        Due.is("NONE has number 2", x.run(8, 0, 0), -2);
        Due.tape(x, Due.bytes("xy"));
        Due.is("FULL has number 3", x.run(1, 8191, 0), -4);
        Due.is("REFUSED has none", x.run(1, 8193, 0), -1);
        Due.is("MAKE", x.run(0, 0, 0), 0);
        Due.is("it has number 4", x.file(1, 1), 4);
        Due.is("count(3) then", x.count(3), 5);
    }
}
