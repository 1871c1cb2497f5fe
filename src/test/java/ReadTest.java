/** Promises 5 and 6, READ and SIZE. */
public final class ReadTest {
    public static void main(String[] args) {
        StripeFiles x = new StripeFiles();
        Due.name(x, 0, "f");
        Due.is("READ of none", x.run(4, 0, 5), -2);
        Due.is("SIZE of none", x.run(8, 0, 0), -2);
        Due.is("both make none", x.count(0), 0);
        Due.make(x, "f");
        Due.is("SIZE of nothing", x.run(8, 0, 0), 0);
        Due.is("READ of nothing", x.run(4, 0, 5), 0);
        Due.told(x, "");
        Due.write(x, "f", 440, Due.bytes("abcdefghijklmnop\u0080\u00ff"));
        Due.is("SIZE", x.run(8, 0, 0), 458);
        Due.tape(x, Due.bytes("tape"));
        Due.is("READ over two stripes", x.run(4, 438, 12), 12);
        Due.told(x, "\0\0abcdefghij");
        Due.is("READ leaves the TAPE", x.count(4), 4);
        Due.is("READ to the end", x.run(4, 448, 10), 10);
        Due.told(x, "ijklmnop\u0080\u00ff");
        Due.is("READ over the end", x.run(4, 456, 2048), 2);
        Due.told(x, "\u0080\u00ff");
        Due.is("READ at the end", x.run(4, 458, 5), 0);
        Due.told(x, "");
        Due.is("READ behind the end", x.run(4, 8192, 2048), 0);
        Due.told(x, "");
        Due.is("READ of no bytes", x.run(4, 440, 0), 0);
        Due.told(x, "");
        Due.is("READ lays nothing", x.file(0, 3), 2);
        readOfWhatIsNotLaid();
        Due.finish();
    }

    private static void readOfWhatIsNotLaid() {
        StripeFiles x = new StripeFiles();
        Due.write(x, "f", 0, Due.many(40, 'a'));
        Due.is("READ of bytes before", x.run(4, 0, 40), 40);
        Due.is("CUT", x.run(3, 0, 0), 40);
        Due.is("CUT", x.run(3, 8192, 0), 0);
        Due.is("READ", x.run(4, 6144, 2048), 2048);
        Due.is("told(0)", x.told(0), 0);
        Due.is("told(39)", x.told(39), 0);
        Due.is("told(2047)", x.told(2047), 0);
        Due.is("told(2048)", x.told(2048), -2);
        Due.is("nothing laid", x.count(2), 0);
    }
}
