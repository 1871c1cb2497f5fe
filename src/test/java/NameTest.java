/** Promise 4: name makes the TAPE NAME 0 or 1. */
public final class NameTest {
    public static void main(String[] args) {
        otherNumbersAreRefused();
        lengthsUpTo200();
        eachNameIsItsOwn();
        Due.finish();
    }

    private static void otherNumbersAreRefused() {
        StripeFiles x = new StripeFiles();
        Due.tape(x, Due.bytes("abc"));
        int[] wrong = {2, -1, 3, Integer.MIN_VALUE, Integer.MAX_VALUE};
        for (int k : wrong) {
            Due.is("name(" + k + ")", x.name(k), -1);
            Due.is("count(4) after name(" + k + ")", x.count(4), 3);
        }
        Due.is("MAKE while NAME 0 is empty", x.run(0, 0, 0), -1);
        Due.is("name(0)", x.name(0), 3);
        Due.is("count(4) after name(0)", x.count(4), 0);
        Due.is("MAKE", x.run(0, 0, 0), 0);
        Due.is("file(0, 2)", x.file(0, 2), 3);
    }

    private static void lengthsUpTo200() {
        StripeFiles x = new StripeFiles();
        Due.tape(x, Due.many(201, 'n'));
        Due.is("name(0) of 201 bytes", x.name(0), -1);
        Due.is("name(1) of 201 bytes", x.name(1), -1);
        Due.is("count(4) after 201 bytes", x.count(4), 201);
        Due.is("end(200)", x.end(200), 200);
        Due.is("name(0) of 200 bytes", x.name(0), 200);
        Due.is("MAKE", x.run(0, 0, 0), 0);
        Due.is("file(0, 2)", x.file(0, 2), 200);
        Due.is("name(0) of no bytes", x.name(0), 0);
        Due.is("SIZE while NAME 0 is empty", x.run(8, 0, 0), -1);
        Due.is("NEXT of the empty NAME", x.run(9, 0, 0), 200);
        Due.told(x, Due.many(200, 'n'));
    }

    private static void eachNameIsItsOwn() {
        StripeFiles x = new StripeFiles();
        Due.make(x, "first");
        Due.name(x, 1, "second name");
        Due.is("SIZE of NAME 0", x.run(8, 0, 0), 0);
        Due.is("RENAME", x.run(6, 0, 0), 0);
        Due.is("SIZE of NAME 0 after RENAME", x.run(8, 0, 0), -2);
        Due.is("file(0, 2)", x.file(0, 2), 11);
        Due.name(x, 0, "second name");
        Due.is("SIZE of the new name", x.run(8, 0, 0), 0);
        // A shorter name must leave nothing of a longer one behind.
        Due.name(x, 0, "s");
        Due.is("SIZE of a shorter name", x.run(8, 0, 0), -2);
        Due.name(x, 1, "");
        Due.is("RENAME while NAME 1 is empty", x.run(6, 0, 0), -1);
    }
}
