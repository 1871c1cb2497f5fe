/** Promise 3: end cuts the TAPE to its first bytes. */
public final class EndTest {
    public static void main(String[] args) {
        StripeFiles x = new StripeFiles();
        Due.is("end(0) of nothing", x.end(0), 0);
        Due.is("end(1) of nothing", x.end(1), -1);
        Due.is("end(-1) of nothing", x.end(-1), -1);
        Due.name(x, 0, "f");
        Due.tape(x, Due.bytes("abcdefghijklmnopqrst"));
        Due.is("end(21)", x.end(21), -1);
        Due.is("end(-1)", x.end(-1), -1);
        Due.is("end(least)", x.end(Integer.MIN_VALUE), -1);
        Due.is("end(most)", x.end(Integer.MAX_VALUE), -1);
        Due.is("count(4) after REFUSED", x.count(4), 20);
        Due.is("end(20)", x.end(20), 20);
        Due.is("end(3)", x.end(3), 3);
        Due.is("end(4)", x.end(4), -1);
        Due.is("count(4)", x.count(4), 3);
        Due.is("feed behind the end", x.feed(0x41424344, 0, 0, 0, 0), 23);
        Due.is("end(5)", x.end(5), 5);
        Due.is("WRITE", x.run(1, 0, 0), 5);
        Due.is("READ", x.run(4, 0, 9), 5);
        Due.told(x, "abcAB");
        Due.finish();
    }
}
