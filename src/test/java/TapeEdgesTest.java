/** The sentences on the TAPE and the NAMES that name an edge, and Promises 2 to 4, each with a test of its own. */
public final class TapeEdgesTest {
    private static final int LEAST = Integer.MIN_VALUE, MOST = Integer.MAX_VALUE;

    public static void main(String[] args) {
        tapeHasNoneAtFirst();
        tapeHasAtMost2048();
        namesHaveNoneAtFirst();
        namesHave0To200();
        feedBringsTheHighestFirst();
        feedTellsHowMany();
        feedIsFullBeyond2048();
        feedThatIsFullBringsNothing();
        endCutsToTheFirst();
        endIsRefusedIfTheTapeHasLess();
        endIsRefusedBelow0();
        nameBecomesTheTape();
        nameEmptiesTheTape();
        nameIsRefusedForAnotherNumber();
        nameIsRefusedBeyond200();
        Due.finish();
    }

    private static void tapeHasNoneAtFirst() {
        StripeFiles x = Due.sentence("THE TAPE has bytes, none at first");
        Due.is("count(4)", x.count(4), 0);
        Due.is("end(1)", x.end(1), -1);
        Due.is("end(0)", x.end(0), 0);
        Due.is("name(0)", x.name(0), 0);
        Due.is("the first feed", x.feed(0, 0, 0, 0, 0), 20);
    }

    private static void tapeHasAtMost2048() {
        StripeFiles x = Due.sentence("THE TAPE has bytes, none at first, at most 2048.");
        Due.tape(x, Due.many(2028, 'a'));
        Due.is("feed to 2048", x.feed(1, 2, 3, 4, 5), 2048);
        Due.is("count(4)", x.count(4), 2048);
        Due.is("feed beyond", x.feed(6, 7, 8, 9, 10), -4);
        Due.is("count(4) then", x.count(4), 2048);
    }

    private static void namesHaveNoneAtFirst() {
        StripeFiles x = Due.sentence("NAMES 0 and 1 have 0 to 200 bytes each, none at first.");
        for (int kind = 0; kind <= 8; kind++) {
            Due.is("run(" + kind + ", 0, 0)", x.run(kind, 0, 0), -1);
        }
        Due.is("NEXT", x.run(9, 0, 0), -2);
        Due.make(x, "a");
        Due.is("RENAME: NAME 1 has none", x.run(6, 0, 0), -1);
        Due.is("SWAP: NAME 1 has none", x.run(7, 0, 0), -1);
    }

    private static void namesHave0To200() {
        for (int k = 0; k <= 1; k++) {
            StripeFiles x = Due.sentence("NAMES 0 and 1 have 0 to 200 bytes each");
            Due.is("name of 0 bytes", x.name(k), 0);
            Due.tape(x, Due.many(1, 'a'));
            Due.is("name of 1 byte", x.name(k), 1);
            Due.tape(x, Due.many(199, 'a'));
            Due.is("name of 199 bytes", x.name(k), 199);
            Due.tape(x, Due.many(200, 'a'));
            Due.is("name of 200 bytes", x.name(k), 200);
            Due.is("name of 0 bytes again", x.name(k), 0);
        }
    }

    private static void feedBringsTheHighestFirst() {
        StripeFiles x = Due.sentence("Twenty bytes, five times four, the highest of each first, come to the TAPE");
        Due.name(x, 0, "f");
        Due.is("feed", x.feed(0x01020304, LEAST, MOST, -1, 0xfffefdfc), 20);
        Due.is("WRITE", x.run(1, 0, 0), 20);
        Due.is("READ", x.run(4, 0, 2048), 20);
        int[] want = {1, 2, 3, 4, 128, 0, 0, 0, 127, 255, 255, 255, 255, 255, 255, 255, 255, 254, 253, 252};
        for (int i = 0; i < want.length; i++) {
            Due.is("told(" + i + ")", x.told(i), want[i]);
        }
    }

    private static void feedTellsHowMany() {
        StripeFiles x = Due.sentence("come to the TAPE: how many it has");
        Due.is("feed", x.feed(0, 0, 0, 0, 0), 20);
        Due.is("feed again", x.feed(0, 0, 0, 0, 0), 40);
        Due.is("end(1)", x.end(1), 1);
        Due.is("feed behind one byte", x.feed(0, 0, 0, 0, 0), 21);
        Due.is("name(0)", x.name(0), 21);
        Due.is("feed to the empty TAPE", x.feed(0, 0, 0, 0, 0), 20);
    }

    private static void feedIsFullBeyond2048() {
        StripeFiles x = Due.sentence("FULL if it would have more than 2048.");
        Due.tape(x, Due.many(2029, 'a'));
        Due.is("feed to 2049", x.feed(0, 0, 0, 0, 0), -4);
        Due.is("end(2028)", x.end(2028), 2028);
        Due.is("feed to 2048", x.feed(0, 0, 0, 0, 0), 2048);
        Due.is("feed to 2068", x.feed(0, 0, 0, 0, 0), -4);
        Due.is("end(2047)", x.end(2047), 2047);
        Due.is("feed to 2067", x.feed(0, 0, 0, 0, 0), -4);
    }

    private static void feedThatIsFullBringsNothing() {
        StripeFiles x = Due.sentence("FULL if it would have more than 2048.");
        Due.name(x, 0, "f");
        Due.tape(x, Due.many(2040, 'a'));
        Due.is("feed to 2060", x.feed(-1, -1, -1, -1, -1), -4);
        Due.is("count(4)", x.count(4), 2040);
        Due.is("it is no OPERATION", x.count(3), 0);
        Due.is("WRITE", x.run(1, 0, 0), 2040);
        Due.is("READ", x.run(4, 2030, 100), 10);
        Due.told(x, "aaaaaaaaaa");
    }

    private static void endCutsToTheFirst() {
        StripeFiles x = Due.sentence("The TAPE is cut to its first n bytes: n");
        Due.name(x, 0, "f");
        Due.tape(x, Due.bytes("abcdefghijklmnopqrst"));
        Due.is("end of all", x.end(20), 20);
        Due.is("count(4)", x.count(4), 20);
        Due.is("end(19)", x.end(19), 19);
        Due.is("end(3)", x.end(3), 3);
        Due.is("WRITE", x.run(1, 0, 0), 3);
        Due.is("READ", x.run(4, 0, 20), 3);
        Due.told(x, "abc");
        Due.tape(x, Due.bytes("x"));
        Due.is("end(0)", x.end(0), 0);
        Due.is("count(4) after end(0)", x.count(4), 0);
    }

    private static void endIsRefusedIfTheTapeHasLess() {
        StripeFiles x = Due.sentence("REFUSED if it has less, or n is below 0.");
        Due.is("end(1) of none", x.end(1), -1);
        Due.tape(x, Due.many(40, 'a'));
        Due.is("end(41)", x.end(41), -1);
        Due.is("end(2048)", x.end(2048), -1);
        Due.is("end(most)", x.end(MOST), -1);
        Due.is("count(4)", x.count(4), 40);
        Due.is("end(7)", x.end(7), 7);
        Due.is("what was cut off is gone: end(8)", x.end(8), -1);
        Due.is("count(4) then", x.count(4), 7);
    }

    private static void endIsRefusedBelow0() {
        StripeFiles x = Due.sentence("REFUSED if it has less, or n is below 0.");
        Due.is("end(-1) of none", x.end(-1), -1);
        Due.tape(x, Due.many(20, 'a'));
        Due.is("end(-1)", x.end(-1), -1);
        Due.is("end(-20)", x.end(-20), -1);
        Due.is("end(least)", x.end(LEAST), -1);
        Due.is("count(4)", x.count(4), 20);
    }

    private static void nameBecomesTheTape() {
        StripeFiles x = Due.sentence("NAME k (0, 1) becomes the TAPE");
        Due.make(x, "ab");
        Due.name(x, 1, "cd");
        Due.is("SIZE of ab", x.run(8, 0, 0), 0);
        Due.is("RENAME", x.run(6, 0, 0), 0);
        Due.is("SIZE of ab then", x.run(8, 0, 0), -2);
        Due.name(x, 0, "c");
        Due.is("SIZE of c: nothing is left of a longer NAME", x.run(8, 0, 0), -2);
        Due.name(x, 0, "cd");
        Due.is("SIZE of cd", x.run(8, 0, 0), 0);
        Due.is("name(0) of nothing", x.name(0), 0);
        Due.is("SIZE without a NAME", x.run(8, 0, 0), -1);
        Due.is("NEXT", x.run(9, 0, 0), 2);
        Due.told(x, "cd");
    }

    private static void nameEmptiesTheTape() {
        StripeFiles x = Due.sentence("NAME k (0, 1) becomes the TAPE, and that is empty: its length.");
        Due.tape(x, Due.bytes("abc"));
        Due.is("name(0)", x.name(0), 3);
        Due.is("count(4)", x.count(4), 0);
        Due.tape(x, Due.many(200, 'a'));
        Due.is("name(1)", x.name(1), 200);
        Due.is("count(4) then", x.count(4), 0);
        Due.is("end(1)", x.end(1), -1);
    }

    private static void nameIsRefusedForAnotherNumber() {
        StripeFiles x = Due.sentence("REFUSED for another k, or more than 200 bytes (the TAPE stays).");
        Due.make(x, "f");
        Due.name(x, 1, "g");
        Due.tape(x, Due.bytes("abc"));
        int[] wrong = {2, -1, LEAST, MOST};
        for (int k : wrong) {
            Due.is("name(" + k + ")", x.name(k), -1);
            Due.is("count(4)", x.count(4), 3);
        }
        Due.is("NAME 0 stays: SIZE", x.run(8, 0, 0), 0);
        Due.is("NAME 1 stays: RENAME", x.run(6, 0, 0), 0);
        Due.is("file(0, 2)", x.file(0, 2), 1);
    }

    private static void nameIsRefusedBeyond200() {
        StripeFiles x = Due.sentence("REFUSED for another k, or more than 200 bytes (the TAPE stays).");
        Due.make(x, "f");
        Due.name(x, 1, "g");
        Due.tape(x, Due.many(2040, 'a'));
        Due.is("name(0) of 2040", x.name(0), -1);
        Due.is("count(4)", x.count(4), 2040);
        Due.is("end(201)", x.end(201), 201);
        Due.is("name(0) of 201", x.name(0), -1);
        Due.is("name(1) of 201", x.name(1), -1);
        Due.is("count(4) then", x.count(4), 201);
        Due.is("NAME 0 stays: SIZE", x.run(8, 0, 0), 0);
        Due.is("NAME 1 stays: RENAME", x.run(6, 0, 0), 0);
        Due.is("length of the name", x.file(0, 2), 1);
        Due.is("end(200)", x.end(200), 200);
        Due.is("name(0) of 200", x.name(0), 200);
    }
}
