/** The sentences on READ, REMOVE, RENAME, SWAP, SIZE and NEXT that name an edge, each with a test of its own. */
public final class NamesEdgesTest {
    public static void main(String[] args) {
        readFromAOn();
        readOfBAtMost();
        readOfNothing();
        readOfNone();
        removeAnswersHowManyBytes();
        removeOfNone();
        removeMakesRoom();
        renameToAFreeName();
        anotherOfThatNameGoes();
        renameOfNone();
        renameToTheSameName();
        renameToTheSameNameOfNone();
        swapChangesTheNames();
        swapIfOneIsNotThere();
        swapOfTheSameName();
        sizeAnswersHowManyBytes();
        sizeOfNone();
        nextIsTheLeastThatIsGreater();
        nextOfTheEmptyName();
        nextOfNone();
        nextAnswersTheLength();
        Due.finish();
    }

    private static void readFromAOn() {
        StripeFiles x = Due.sentence("4 READ a, b: tells the bytes from a on");
        Due.write(x, "f", 446, Due.bytes("abcd"));
        Due.is("READ 446", x.run(4, 446, 100), 4);
        Due.told(x, "abcd");
        Due.is("READ 447 over the edge of a STRIPE", x.run(4, 447, 100), 3);
        Due.told(x, "bcd");
        Due.is("READ 448 from the edge of a STRIPE", x.run(4, 448, 100), 2);
        Due.told(x, "cd");
        Due.is("READ of the last byte", x.run(4, 449, 100), 1);
        Due.told(x, "d");
        Due.is("READ 0", x.run(4, 0, 2), 2);
        Due.told(x, "\0\0");
    }

    private static void readOfBAtMost() {
        StripeFiles x = Due.sentence("b at most: how many");
        Due.write(x, "f", 2046, Due.bytes("abcd"));
        Due.is("READ of 1", x.run(4, 2046, 1), 1);
        Due.told(x, "a");
        Due.is("READ of just what there is", x.run(4, 2046, 4), 4);
        Due.told(x, "abcd");
        Due.is("READ of one more than there is", x.run(4, 2046, 5), 4);
        Due.told(x, "abcd");
        Due.is("READ of 2048", x.run(4, 0, 2048), 2048);
        Due.is("told(2047)", x.told(2047), 'b');
        Due.is("told(2048)", x.told(2048), -2);
        Due.is("READ of 2047", x.run(4, 0, 2047), 2047);
        Due.is("told(2046)", x.told(2046), 'a');
        Due.is("told(2047)", x.told(2047), -2);
    }

    private static void readOfNothing() {
        StripeFiles x = Due.sentence("b at most: how many");
        Due.make(x, "f");
        Due.is("READ of a FILE without bytes", x.run(4, 0, 2048), 0);
        Due.told(x, "");
        Due.write(x, "f", 0, Due.bytes("abc"));
        Due.is("READ of none at most", x.run(4, 0, 0), 0);
        Due.told(x, "");
        Due.is("READ at the end", x.run(4, 3, 5), 0);
        Due.told(x, "");
        Due.is("READ behind the end", x.run(4, 4, 5), 0);
        Due.told(x, "");
        Due.is("READ far behind the end", x.run(4, 8192, 2048), 0);
        Due.told(x, "");
        Due.is("CUT", x.run(3, 8192, 0), 3);
        Due.is("READ at the end of all", x.run(4, 8192, 1), 0);
        Due.is("READ before the end of all", x.run(4, 8191, 2048), 1);
    }

    private static void readOfNone() {
        StripeFiles x = Due.sentence("b at most: how many; NONE.");
        Due.write(x, "f", 0, Due.bytes("abc"));
        Due.is("READ", x.run(4, 0, 3), 3);
        Due.name(x, 0, "g");
        Due.is("READ of none", x.run(4, 0, 3), -2);
        Due.told(x, "");
        Due.is("READ of no bytes of none", x.run(4, 0, 0), -2);
        Due.is("count(0)", x.count(0), 1);
    }

    private static void removeAnswersHowManyBytes() {
        StripeFiles x = Due.sentence("5 REMOVE: how many bytes it had");
        Due.make(x, "f");
        Due.is("REMOVE of one without bytes", x.run(5, 0, 0), 0);
        Due.is("count(0)", x.count(0), 0);
        Due.is("MAKE", x.run(0, 0, 0), 0);
        Due.is("CUT", x.run(3, 8192, 0), 0);
        Due.is("REMOVE of one with 8192", x.run(5, 0, 0), 8192);
        Due.is("count(1)", x.count(1), 0);
        Due.is("SIZE", x.run(8, 0, 0), -2);
    }

    private static void removeOfNone() {
        StripeFiles x = Due.sentence("5 REMOVE: how many bytes it had; NONE.");
        Due.name(x, 0, "f");
        Due.is("REMOVE where there are no FILES", x.run(5, 0, 0), -2);
        Due.write(x, "fa", 0, Due.bytes("abc"));
        Due.name(x, 0, "f");
        Due.is("REMOVE of a beginning", x.run(5, 0, 0), -2);
        Due.name(x, 0, "fab");
        Due.is("REMOVE of what is longer", x.run(5, 0, 0), -2);
        Due.is("count(1)", x.count(1), 3);
        Due.name(x, 0, "fa");
        Due.is("REMOVE", x.run(5, 0, 0), 3);
        Due.is("REMOVE again", x.run(5, 0, 0), -2);
    }

    private static void removeMakesRoom() {
        StripeFiles x = Due.sentence("5 REMOVE: how many bytes it had");
        Due.leaveRoom(x, 0);
        Due.is("REMOVE", x.run(5, 0, 0), 8192);
        Due.name(x, 0, "g");
        Due.tape(x, Due.bytes("z"));
        Due.is("WRITE in its room", x.run(1, 8191, 0), 1);
        Due.is("count(1)", x.count(1), 32768);
    }

    private static void renameToAFreeName() {
        StripeFiles x = Due.sentence("6 RENAME: it has NAME 1 then");
        Due.write(x, "m", 448, Due.bytes("x"));
        Due.make(x, "n");
        Due.name(x, 0, "m");
        Due.name(x, 1, Due.many(200, 'z'));
        Due.is("RENAME behind all", x.run(6, 0, 0), 0);
        Due.is("length of its name", x.file(1, 2), 200);
        Due.is("ID", x.file(1, 1), 0);
        Due.is("piece", x.piece(1, 1, 0), 'x');
        Due.is("SIZE of m", x.run(8, 0, 0), -2);
        Due.name(x, 0, Due.many(200, 'z'));
        Due.name(x, 1, "\0");
        Due.is("RENAME before all", x.run(6, 0, 0), 0);
        Due.is("length of its name", x.file(0, 2), 1);
        Due.is("bytes", x.file(0, 0), 449);
        Due.is("count(0)", x.count(0), 2);
    }

    private static void anotherOfThatNameGoes() {
        StripeFiles x = Due.sentence("another FILE of that name goes: 1 if there was one, else 0");
        Due.write(x, "a", 0, Due.bytes("one"));
        Due.write(x, "b", 440, Due.many(20, 'b'));
        Due.name(x, 0, "a");
        Due.name(x, 1, "b");
        Due.is("RENAME over b", x.run(6, 0, 0), 1);
        Due.is("count(0)", x.count(0), 1);
        Due.is("count(1)", x.count(1), 3);
        Due.is("count(2): its pieces go too", x.count(2), 1);
        Due.is("ID", x.file(0, 1), 0);
        Due.make(x, "c");
        Due.is("RENAME over one that stands before", x.run(6, 0, 0), 1);
        Due.is("count(1) then", x.count(1), 0);
        Due.is("ID then", x.file(0, 1), 3);
        Due.name(x, 0, "b");
        Due.name(x, 1, "ba");
        Due.is("RENAME to a free name", x.run(6, 0, 0), 0);
    }

    private static void renameOfNone() {
        StripeFiles x = Due.sentence("NONE if there is none to rename");
        Due.name(x, 0, "a");
        Due.name(x, 1, "b");
        Due.is("RENAME where there are no FILES", x.run(6, 0, 0), -2);
        Due.write(x, "b", 0, Due.bytes("abc"));
        Due.name(x, 0, "a");
        Due.is("RENAME over one that is there", x.run(6, 0, 0), -2);
        Due.is("that one stays", x.count(0), 1);
        Due.is("with its bytes", x.count(1), 3);
    }

    private static void renameToTheSameName() {
        StripeFiles x = Due.sentence("the same name (of one that is there): 0, nothing changes.");
        Due.write(x, "a", 0, Due.bytes("one"));
        Due.write(x, "b", 448, Due.bytes("two"));
        Due.name(x, 1, "b");
        String before = Due.files(x);
        Due.is("RENAME", x.run(6, 0, 0), 0);
        Due.same("FILES", Due.files(x), before);
        Due.is("READ", x.run(4, 448, 9), 3);
        Due.told(x, "two");
        Due.is("it is an OPERATION", x.count(3), 4);
    }

    private static void renameToTheSameNameOfNone() {
        StripeFiles x = Due.sentence("NONE if there is none to rename; the same name (of one that is there)");
        Due.make(x, "a");
        Due.name(x, 0, "b");
        Due.name(x, 1, "b");
        Due.is("RENAME", x.run(6, 0, 0), -2);
        Due.is("count(0)", x.count(0), 1);
    }

    private static void swapChangesTheNames() {
        StripeFiles x = Due.sentence("7 SWAP: the FILES of both names change their names: 0");
        Due.write(x, "a", 0, Due.bytes("one"));
        Due.make(x, "m");
        Due.write(x, "zz", 448, Due.bytes("three"));
        Due.name(x, 0, "a");
        Due.name(x, 1, "zz");
        Due.is("SWAP", x.run(7, 0, 0), 0);
        Due.same("FILES", Due.files(x), "3 456 2 (453 2 1 1 -2 116)(0 1 1 0 -2 -2)(3 0 2 1 111 -2)");
        Due.is("SIZE of NAME 0", x.run(8, 0, 0), 453);
        Due.is("SWAP back", x.run(7, 0, 0), 0);
        Due.is("SIZE of NAME 0 then", x.run(8, 0, 0), 3);
        Due.name(x, 0, "zz");
        Due.name(x, 1, "a");
        Due.is("SWAP of the greater with the lesser", x.run(7, 0, 0), 0);
        Due.is("file(0, 1)", x.file(0, 1), 2);
        Due.is("file(2, 1)", x.file(2, 1), 0);
    }

    private static void swapIfOneIsNotThere() {
        StripeFiles x = Due.sentence("NONE if one is not there");
        Due.write(x, "a", 0, Due.bytes("one"));
        String before = Due.files(x);
        Due.name(x, 1, "b");
        Due.is("NAME 1 is not there", x.run(7, 0, 0), -2);
        Due.name(x, 0, "b");
        Due.name(x, 1, "a");
        Due.is("NAME 0 is not there", x.run(7, 0, 0), -2);
        Due.name(x, 1, "c");
        Due.is("none is there", x.run(7, 0, 0), -2);
        Due.same("FILES", Due.files(x), before);
    }

    private static void swapOfTheSameName() {
        StripeFiles x = Due.sentence("NONE if one is not there; the same name (of one that is there): 0.");
        Due.name(x, 0, "a");
        Due.name(x, 1, "a");
        Due.is("SWAP of none", x.run(7, 0, 0), -2);
        Due.write(x, "a", 0, Due.bytes("one"));
        String before = Due.files(x);
        Due.is("SWAP", x.run(7, 0, 0), 0);
        Due.same("FILES", Due.files(x), before);
        Due.is("READ", x.run(4, 0, 9), 3);
        Due.told(x, "one");
    }

    private static void sizeAnswersHowManyBytes() {
        StripeFiles x = Due.sentence("8 SIZE: how many bytes");
        Due.make(x, "f");
        Due.is("SIZE of nothing", x.run(8, 0, 0), 0);
        Due.is("CUT", x.run(3, 8192, 0), 0);
        Due.is("SIZE of 8192", x.run(8, 0, 0), 8192);
        Due.is("SIZE changes nothing", x.file(0, 0), 8192);
    }

    private static void sizeOfNone() {
        StripeFiles x = Due.sentence("8 SIZE: how many bytes; NONE.");
        Due.name(x, 0, "f");
        Due.is("SIZE", x.run(8, 0, 0), -2);
        Due.is("count(0)", x.count(0), 0);
        Due.make(x, "f\0");
        Due.name(x, 0, "f");
        Due.is("SIZE of a beginning", x.run(8, 0, 0), -2);
    }

    private static void nextIsTheLeastThatIsGreater() {
        StripeFiles x = Due.sentence("9 NEXT: tells the least name that is greater than NAME 0");
        Due.make(x, "b");
        Due.make(x, "ba");
        Due.make(x, "\u00ff");
        String[][] nexts = {{"a\u00ff\u00ff", "b"}, {"b", "ba"}, {"b\0", "ba"}, {"ba", "\u00ff"}, {"\u007f", "\u00ff"}};
        for (String[] next : nexts) {
            Due.name(x, 0, next[0]);
            Due.is("NEXT of " + next[0], x.run(9, 0, 0), next[1].length());
            Due.told(x, next[1]);
        }
    }

    private static void nextOfTheEmptyName() {
        StripeFiles x = Due.sentence("NAME 0 (which may be empty here)");
        Due.is("NEXT of no FILES", x.run(9, 0, 0), -2);
        Due.make(x, "b");
        Due.make(x, "\0");
        Due.is("name(0) of nothing", x.name(0), 0);
        Due.is("NEXT", x.run(9, 0, 0), 1);
        Due.told(x, "\0");
    }

    private static void nextOfNone() {
        StripeFiles x = Due.sentence("(which may be empty here): its length; NONE.");
        Due.make(x, "b");
        Due.is("NEXT of the greatest", x.run(9, 0, 0), -2);
        Due.told(x, "");
        Due.name(x, 0, "b\0");
        Due.is("NEXT of what is longer", x.run(9, 0, 0), -2);
        Due.name(x, 0, "\u0080");
        Due.is("NEXT of a byte above 127", x.run(9, 0, 0), -2);
        Due.is("count(3)", x.count(3), 4);
    }

    private static void nextAnswersTheLength() {
        StripeFiles x = Due.sentence("(which may be empty here): its length");
        Due.name(x, 0, Due.many(200, 'n'));
        Due.is("MAKE", x.run(0, 0, 0), 0);
        Due.is("CUT", x.run(3, 5, 0), 0);
        Due.name(x, 0, "a");
        Due.is("NEXT", x.run(9, 0, 0), 200);
        Due.told(x, Due.many(200, 'n'));
    }
}
