/** Promise 5, MAKE: a FILE without bytes, its ID, EXISTS and FULL. */
public final class MakeTest {
    public static void main(String[] args) {
        idsAreOperationNumbers();
        the49thIsFull();
        Due.finish();
    }

    private static void idsAreOperationNumbers() {
        StripeFiles x = new StripeFiles();
        Due.name(x, 0, "m");
        Due.is("SIZE is OPERATION 0", x.run(8, 0, 0), -2);
        Due.tape(x, Due.bytes("tape"));
        Due.is("MAKE", x.run(0, 0, 0), 0);
        Due.is("count(4): MAKE leaves the TAPE", x.count(4), 4);
        Due.is("bytes", x.file(0, 0), 0);
        Due.is("ID", x.file(0, 1), 1);
        Due.is("laid", x.file(0, 3), 0);
        Due.is("MAKE again", x.run(0, 0, 0), -3);
        Due.is("count(4) after EXISTS", x.count(4), 4);
        Due.is("ID after EXISTS", x.file(0, 1), 1);
        Due.is("APPEND", x.run(2, 0, 0), 4);
        Due.is("ID after APPEND", x.file(0, 1), 1);
        Due.is("MAKE changes no bytes", x.run(0, 0, 0), -3);
        Due.is("bytes after EXISTS", x.file(0, 0), 4);
        Due.write(x, "n", 0, Due.bytes("w"));
        Due.is("ID by WRITE", x.file(1, 1), 5);
        Due.name(x, 0, "o");
        Due.is("APPEND of nothing", x.run(2, 0, 0), 0);
        Due.is("ID by APPEND", x.file(2, 1), 6);
        Due.is("REMOVE", x.run(5, 0, 0), 0);
        Due.is("MAKE after REMOVE", x.run(0, 0, 0), 0);
        Due.is("a new ID", x.file(2, 1), 8);
    }

    private static void the49thIsFull() {
        StripeFiles x = new StripeFiles();
        for (int k = 0; k < 48; k++) {
            Due.make(x, "" + (char) (255 - k));
        }
        Due.is("count(0)", x.count(0), 48);
        Due.is("MAKE of one that is there", x.run(0, 0, 0), -3);
        Due.name(x, 0, "new");
        Due.is("MAKE the 49th", x.run(0, 0, 0), -4);
        Due.is("WRITE of nothing into the 49th", x.run(1, 0, 0), -4);
        Due.tape(x, Due.bytes("a"));
        Due.is("WRITE into the 49th", x.run(1, 0, 0), -4);
        Due.is("count(4) after WRITE", x.count(4), 0);
        Due.tape(x, Due.bytes("a"));
        Due.is("APPEND to the 49th", x.run(2, 0, 0), -4);
        Due.is("count(4) after APPEND", x.count(4), 0);
        Due.is("CUT of none", x.run(3, 5, 0), -2);
        Due.is("count(0)", x.count(0), 48);
        Due.is("count(3)", x.count(3), 54);
        Due.write(x, "" + (char) 255, 0, Due.bytes("abc"));
        Due.is("the last in order", x.file(47, 0), 3);
        Due.is("the last has the first ID", x.file(47, 1), 0);
        Due.is("the first in order has the last ID", x.file(0, 1), 47);
        Due.is("no FILE 48", x.file(48, 0), -2);
        Due.is("REMOVE", x.run(5, 0, 0), 3);
        Due.make(x, "new");
        Due.is("count(0) after REMOVE and MAKE", x.count(0), 48);
        Due.is("ID of the new one", x.file(0, 1), 56);
        Due.is("bytes of the new one", x.file(0, 0), 0);
    }
}
