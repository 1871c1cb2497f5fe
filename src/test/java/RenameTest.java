/** Promise 5, RENAME: the FILE has NAME 1 then, and another of that name goes. */
public final class RenameTest {
    public static void main(String[] args) {
        toAFreeName();
        overAnother();
        sameName();
        Due.finish();
    }

    private static void toAFreeName() {
        StripeFiles x = new StripeFiles();
        Due.name(x, 1, "z");
        Due.name(x, 0, "a");
        Due.is("RENAME of none", x.run(6, 0, 0), -2);
        Due.make(x, "m");
        Due.write(x, "a", 500, Due.bytes("text"));
        Due.tape(x, Due.bytes("tape"));
        Due.is("RENAME", x.run(6, 0, 0), 0);
        Due.is("RENAME leaves the TAPE", x.count(4), 4);
        Due.is("count(0)", x.count(0), 2);
        Due.is("count(3)", x.count(3), 4);
        Due.is("m is the first now", x.file(0, 1), 1);
        Due.is("z is behind it, with its ID", x.file(1, 1), 2);
        Due.is("bytes", x.file(1, 0), 504);
        Due.is("laid", x.file(1, 3), 1);
        Due.is("piece", x.piece(1, 1, 52), 't');
        Due.is("RENAME again: NAME 0 is a still", x.run(6, 0, 0), -2);
        Due.is("end(0)", x.end(0), 0);
        Due.name(x, 0, "z");
        Due.name(x, 1, Due.many(200, 'b'));
        Due.is("RENAME to the front", x.run(6, 0, 0), 0);
        Due.is("it is the first", x.file(0, 1), 2);
        Due.is("length of its name", x.file(0, 2), 200);
        Due.is("SIZE of z", x.run(8, 0, 0), -2);
    }

    private static void overAnother() {
        StripeFiles x = new StripeFiles();
        Due.write(x, "a", 0, Due.bytes("first"));
        Due.write(x, "b", 400, Due.many(200, 'b'));
        Due.write(x, "c", 0, Due.bytes("third!"));
        Due.name(x, 0, "a");
        Due.name(x, 1, "b");
        Due.is("RENAME forwards", x.run(6, 0, 0), 1);
        Due.is("count(0)", x.count(0), 2);
        Due.is("count(1)", x.count(1), 11);
        Due.is("count(2)", x.count(2), 2);
        Due.is("ID of b", x.file(0, 1), 0);
        Due.is("bytes of b", x.file(0, 0), 5);
        Due.name(x, 0, "c");
        Due.is("RENAME backwards", x.run(6, 0, 0), 1);
        Due.is("count(0)", x.count(0), 1);
        Due.is("ID of b", x.file(0, 1), 2);
        Due.name(x, 0, "b");
        Due.is("READ", x.run(4, 0, 20), 6);
        Due.told(x, "third!");
        Due.name(x, 0, "none");
        Due.is("RENAME of none over one that is there", x.run(6, 0, 0), -2);
        Due.is("count(0)", x.count(0), 1);
    }

    private static void sameName() {
        StripeFiles x = new StripeFiles();
        Due.name(x, 0, "same");
        Due.name(x, 1, "same");
        Due.is("RENAME of none to itself", x.run(6, 0, 0), -2);
        Due.write(x, "same", 0, Due.bytes("text"));
        Due.is("RENAME to itself", x.run(6, 0, 0), 0);
        Due.is("count(0)", x.count(0), 1);
        Due.is("count(1)", x.count(1), 4);
        Due.is("count(2)", x.count(2), 1);
        Due.is("ID", x.file(0, 1), 1);
        Due.is("piece", x.piece(0, 0, 3), 't');
        Due.is("it is an OPERATION", x.count(3), 3);
    }
}
