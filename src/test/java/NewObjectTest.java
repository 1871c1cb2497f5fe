/** Promise 1: a new object has no FILES, an empty TAPE, empty NAMES and no OPERATION behind it. */
public final class NewObjectTest {
    public static void main(String[] args) {
        StripeFiles x = new StripeFiles();
        for (int what = 0; what <= 4; what++) {
            Due.is("count(" + what + ")", x.count(what), 0);
        }
        for (int what = 0; what <= 3; what++) {
            Due.is("file(0, " + what + ")", x.file(0, what), -2);
        }
        Due.is("piece(0, 0, 0)", x.piece(0, 0, 0), -2);
        Due.is("told(0)", x.told(0), -2);
        Due.is("MAKE without a NAME", x.run(0, 0, 0), -1);
        Due.is("NEXT", x.run(9, 0, 0), -2);
        twoObjectsShareNothing();
        Due.finish();
    }

    private static void twoObjectsShareNothing() {
        StripeFiles x = new StripeFiles();
        Due.write(x, "a", 0, Due.bytes("text"));
        Due.tape(x, Due.bytes("more"));
        StripeFiles y = new StripeFiles();
        for (int what = 0; what <= 4; what++) {
            Due.is("count(" + what + ") of the second", y.count(what), 0);
        }
        Due.is("SIZE in the second", y.run(8, 0, 0), -1);
        Due.is("count(4) of the first", x.count(4), 4);
        Due.is("SIZE in the first", x.run(8, 0, 0), 4);
    }
}
