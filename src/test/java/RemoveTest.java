/** Promise 5, REMOVE: the FILE goes, and its pieces with it. */
public final class RemoveTest {
    public static void main(String[] args) {
        StripeFiles x = new StripeFiles();
        Due.name(x, 0, "b");
        Due.is("REMOVE of none", x.run(5, 0, 0), -2);
        Due.write(x, "b", 440, Due.bytes("0123456789abcdef"));
        Due.write(x, "a", 0, Due.bytes("a"));
        Due.write(x, "c", 0, Due.bytes("ccc"));
        Due.tape(x, Due.bytes("x"));
        Due.is("name(0)", x.name(0), 1);
        Due.is("REMOVE of another that is not there", x.run(5, 0, 0), -2);
        Due.is("count(0)", x.count(0), 3);
        Due.name(x, 0, "b");
        Due.tape(x, Due.bytes("tape"));
        Due.is("REMOVE", x.run(5, 0, 0), 456);
        Due.is("REMOVE leaves the TAPE", x.count(4), 4);
        Due.is("count(0)", x.count(0), 2);
        Due.is("count(1)", x.count(1), 4);
        Due.is("count(2)", x.count(2), 2);
        Due.is("the second in order", x.file(1, 0), 3);
        Due.is("no third", x.file(2, 0), -2);
        Due.is("SIZE", x.run(8, 0, 0), -2);
        Due.is("REMOVE again", x.run(5, 0, 0), -2);
        Due.is("MAKE again", x.run(0, 0, 0), 0);
        Due.is("no bytes", x.file(1, 0), 0);
        Due.is("nothing laid", x.file(1, 3), 0);
        Due.is("CUT", x.run(3, 456, 0), 0);
        Due.is("nothing laid", x.file(1, 3), 0);
        Due.is("READ", x.run(4, 440, 16), 16);
        Due.told(x, new byte[16]);
        Due.finish();
    }
}
