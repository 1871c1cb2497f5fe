/** Promises 5 and 6, NEXT: the least name that is greater than NAME 0, in the order of bytes. */
public final class NextTest {
    public static void main(String[] args) {
        StripeFiles x = new StripeFiles();
        Due.is("NEXT of no FILES", x.run(9, 0, 0), -2);
        String[] ordered = {"\0", "\0\0", "a", "a\0", "ab", "abc", "b", "\u007f", "\u0080", "\u00ff", "\u00ff\u00ff"};
        int[] makeOrder = {4, 10, 0, 6, 2, 8, 1, 9, 3, 7, 5};
        for (int i : makeOrder) {
            Due.make(x, ordered[i]);
        }
        for (int k = 0; k < ordered.length; k++) {
            Due.is("file(" + k + ", 2)", x.file(k, 2), ordered[k].length());
            Due.is("the ID of FILE " + k, makeOrder[x.file(k, 1) - 1], k);
        }
        String before = "";
        for (String name : ordered) {
            Due.name(x, 0, before);
            Due.is("NEXT", x.run(9, 0, 0), name.length());
            Due.told(x, name);
            before = name;
        }
        Due.name(x, 0, before);
        Due.is("NEXT of the greatest", x.run(9, 0, 0), -2);
        Due.told(x, "");
        Due.name(x, 0, "aa");
        Due.tape(x, Due.bytes("tape"));
        Due.is("NEXT of a name that is not there", x.run(9, 0, 0), 2);
        Due.told(x, "ab");
        Due.is("NEXT leaves the TAPE", x.count(4), 4);
        Due.is("NEXT leaves NAME 0", x.run(9, 0, 0), 2);
        Due.is("it is an OPERATION", x.count(3), 1 + 11 + 12 + 2);
        Due.finish();
    }
}
