/** Promise 2: feed brings twenty bytes to the TAPE, the highest of each four first, up to 2048. */
public final class FeedTest {
    public static void main(String[] args) {
        bytesComeInOrder();
        theTapeHasAnEnd();
        Due.finish();
    }

    private static void bytesComeInOrder() {
        StripeFiles x = new StripeFiles();
        Due.name(x, 0, "f");
        Due.is("feed", x.feed(0x00017f80, 0x81feff00, -1, Integer.MIN_VALUE, 0x0a0b0c0d), 20);
        Due.is("feed again", x.feed(0x11121314, 0, 0, 0, 0x15161718), 40);
        Due.is("count(4)", x.count(4), 40);
        Due.is("WRITE", x.run(1, 0, 0), 40);
        Due.is("READ", x.run(4, 0, 40), 40);
        byte[] want = new byte[40];
        int[] words = {0x00017f80, 0x81feff00, -1, Integer.MIN_VALUE, 0x0a0b0c0d, 0x11121314, 0, 0, 0, 0x15161718};
        for (int i = 0; i < want.length; i++) {
            want[i] = (byte) (words[i / 4] >> 24 - i % 4 * 8);
        }
        Due.told(x, want);
    }

    private static void theTapeHasAnEnd() {
        StripeFiles x = new StripeFiles();
        Due.name(x, 0, "f");
        Due.tape(x, Due.many(2040, 1));
        Due.is("feed to 2060", x.feed(0, 0, 0, 0, 0), -4);
        Due.is("count(4) after FULL", x.count(4), 2040);
        Due.is("end(2029)", x.end(2029), 2029);
        Due.is("feed to 2049", x.feed(0, 0, 0, 0, 0), -4);
        Due.is("end(2028)", x.end(2028), 2028);
        Due.is("feed to 2048", x.feed(0, 0, 0, 0, 7), 2048);
        Due.is("feed to 2068", x.feed(9, 9, 9, 9, 9), -4);
        Due.is("APPEND of 2048", x.run(2, 0, 0), 2048);
        Due.is("READ of 2048", x.run(4, 0, 2048), 2048);
        Due.is("told(2027)", x.told(2027), 1);
        Due.is("told(2028)", x.told(2028), 0);
        Due.is("told(2047)", x.told(2047), 7);
        Due.is("told(2048)", x.told(2048), -2);
    }
}
