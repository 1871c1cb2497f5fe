/** What Promise 5 refuses, and what REFUSED, FULL, EXISTS and NONE leave as it was, each with a test of its own. */
public final class RunEdgesTest {
    private static final int LEAST = Integer.MIN_VALUE, MOST = Integer.MAX_VALUE;

    public static void main(String[] args) {
        kindIsNot0To9();
        name0IsEmpty();
        name0MayBeEmptyForNext();
        name1IsEmptyForRenameAndSwap();
        name1MayBeEmptyForOthers();
        aIsNot0To8192();
        aIsFreeForOthers();
        bIsNot0To2048();
        bIsFreeForOthers();
        refusedChangesNothing();
        refusedIsNoOperation();
        fullChangesNothingOfFiles();
        existsChangesNothingOfFiles();
        noneChangesNothingOfFiles();
        theTapeOfWriteAndAppendIsEmptyThen();
        theTapeOfOthersStays();
        Due.finish();
    }

    private static StripeFiles withFile(String words) {
        StripeFiles x = Due.sentence(words);
        Due.write(x, "f", 0, Due.bytes("abc"));
        return x;
    }

    private static void kindIsNot0To9() {
        StripeFiles x = withFile("REFUSED if kind is not 0 to 9");
        Due.name(x, 1, "g");
        int[] wrong = {-1, 10, LEAST, MOST};
        for (int kind : wrong) {
            Due.is("run(" + kind + ", 0, 0)", x.run(kind, 0, 0), -1);
        }
        Due.is("kind 0", x.run(0, 0, 0), -3);
        Due.is("kind 9", x.run(9, 0, 0), -2);
        Due.is("count(3)", x.count(3), 3);
    }

    private static void name0IsEmpty() {
        StripeFiles x = withFile("NAME 0 is empty (but for NEXT)");
        Due.name(x, 1, "f");
        Due.is("name(0) of nothing", x.name(0), 0);
        Due.tape(x, Due.bytes("tape"));
        for (int kind = 0; kind <= 8; kind++) {
            Due.is("run(" + kind + ", 0, 0)", x.run(kind, 0, 0), -1);
        }
        Due.is("count(0)", x.count(0), 1);
        Due.is("count(3)", x.count(3), 1);
        Due.is("count(4)", x.count(4), 4);
    }

    private static void name0MayBeEmptyForNext() {
        StripeFiles x = withFile("NAME 0 is empty (but for NEXT)");
        Due.is("name(0) of nothing", x.name(0), 0);
        Due.is("NEXT", x.run(9, 0, 0), 1);
        Due.is("count(3)", x.count(3), 2);
    }

    private static void name1IsEmptyForRenameAndSwap() {
        StripeFiles x = withFile("or NAME 1 for RENAME and SWAP");
        Due.is("RENAME", x.run(6, 0, 0), -1);
        Due.is("SWAP", x.run(7, 0, 0), -1);
        Due.name(x, 1, "g");
        Due.is("name(1) of nothing", x.name(1), 0);
        Due.is("RENAME then", x.run(6, 0, 0), -1);
        Due.is("SWAP then", x.run(7, 0, 0), -1);
        Due.name(x, 0, "none");
        Due.is("RENAME of none", x.run(6, 0, 0), -1);
        Due.is("SWAP of none", x.run(7, 0, 0), -1);
        Due.is("count(3)", x.count(3), 1);
        Due.is("file(0, 2)", x.file(0, 2), 1);
    }

    private static void name1MayBeEmptyForOthers() {
        StripeFiles x = withFile("or NAME 1 for RENAME and SWAP");
        int[] kinds = {0, 1, 2, 3, 4, 8, 9, 5};
        int[] answers = {-3, 0, 0, 3, 0, 0, -2, 0};
        for (int i = 0; i < kinds.length; i++) {
            Due.is("run(" + kinds[i] + ", 0, 0)", x.run(kinds[i], 0, 0), answers[i]);
        }
    }

    private static void aIsNot0To8192() {
        StripeFiles x = withFile("a is not 0 to 8192 for WRITE, CUT and READ");
        int[] wrong = {-1, 8193, LEAST, MOST};
        int[] kinds = {1, 3, 4};
        for (int kind : kinds) {
            for (int a : wrong) {
                Due.is("run(" + kind + ", " + a + ", 0)", x.run(kind, a, 0), -1);
            }
        }
        Due.is("count(3)", x.count(3), 1);
        Due.is("WRITE 0", x.run(1, 0, 0), 0);
        Due.is("WRITE 8192", x.run(1, 8192, 0), 0);
        Due.is("READ 0", x.run(4, 0, 9), 3);
        Due.is("READ 8192", x.run(4, 8192, 9), 0);
        Due.is("CUT 8192", x.run(3, 8192, 0), 3);
        Due.is("CUT 0", x.run(3, 0, 0), 8192);
    }

    private static void aIsFreeForOthers() {
        StripeFiles x = withFile("a is not 0 to 8192 for WRITE, CUT and READ");
        Due.name(x, 1, "g");
        int[] kinds = {0, 2, 6, 7, 8, 9, 5};
        int[] answers = {-3, 0, 0, -2, 3, -2, 3};
        int[] free = {-1, 8193, LEAST, MOST};
        for (int i = 0; i < kinds.length; i++) {
            Due.is("run(" + kinds[i] + ", ..., 0)", x.run(kinds[i], free[i % 4], 0), answers[i]);
            if (kinds[i] == 6) {
                Due.is("RENAME is an OPERATION", x.count(3), 4);
                Due.name(x, 0, "g");
                Due.name(x, 1, "none");
            }
        }
        Due.is("count(3)", x.count(3), 8);
    }

    private static void bIsNot0To2048() {
        StripeFiles x = withFile("b is not 0 to 2048 for READ");
        int[] wrong = {-1, 2049, LEAST, MOST};
        for (int b : wrong) {
            Due.is("READ 0, " + b, x.run(4, 0, b), -1);
            Due.is("READ 8192, " + b, x.run(4, 8192, b), -1);
        }
        Due.is("count(3)", x.count(3), 1);
        Due.is("READ 0, 0", x.run(4, 0, 0), 0);
        Due.is("READ 0, 2048", x.run(4, 0, 2048), 3);
        Due.name(x, 0, "none");
        Due.is("READ 0, 2049 of none", x.run(4, 0, 2049), -1);
        Due.is("READ 0, 2048 of none", x.run(4, 0, 2048), -2);
    }

    private static void bIsFreeForOthers() {
        StripeFiles x = withFile("b is not 0 to 2048 for READ");
        Due.name(x, 1, "g");
        int[] kinds = {0, 1, 2, 3, 8, 7, 9, 6};
        int[] answers = {-3, 0, 0, 3, 0, -2, -2, 0};
        int[] free = {-1, 2049, LEAST, MOST};
        for (int i = 0; i < kinds.length; i++) {
            Due.is("run(" + kinds[i] + ", 0, ...)", x.run(kinds[i], 0, free[i % 4]), answers[i]);
        }
        Due.name(x, 0, "g");
        Due.is("REMOVE", x.run(5, 0, -1), 0);
        Due.is("count(3)", x.count(3), 10);
    }

    private static void refusedChangesNothing() {
        StripeFiles x = withFile("What is REFUSED changes nothing");
        Due.is("READ", x.run(4, 0, 3), 3);
        Due.tape(x, Due.bytes("tape"));
        String before = Due.files(x);
        int[][] refused = {{10, 0, 0}, {-1, 0, 0}, {1, -1, 0}, {1, 8193, 0}, {3, 8193, 0}, {4, 0, 2049}, {6, 0, 0}, {7, 0, 0}};
        for (int[] call : refused) {
            Due.is("run(" + call[0] + ", " + call[1] + ", " + call[2] + ")", x.run(call[0], call[1], call[2]), -1);
            Due.same("FILES", Due.files(x), before);
            Due.is("count(4)", x.count(4), 4);
        }
        Due.is("end(5)", x.end(5), -1);
        Due.is("name(2)", x.name(2), -1);
        Due.is("file(0, 4)", x.file(0, 4), -1);
        Due.is("count(5)", x.count(5), -1);
        Due.is("count(4) then", x.count(4), 4);
        Due.told(x, "abc");
        Due.is("APPEND", x.run(2, 0, 0), 4);
        Due.is("READ", x.run(4, 0, 9), 7);
        Due.told(x, "abctape");
    }

    private static void refusedIsNoOperation() {
        StripeFiles x = withFile("What is REFUSED changes nothing, and is no OPERATION");
        Due.is("count(3)", x.count(3), 1);
        Due.is("WRITE -1", x.run(1, -1, 0), -1);
        Due.is("RENAME without NAME 1", x.run(6, 0, 0), -1);
        Due.is("kind 10", x.run(10, 0, 0), -1);
        Due.is("READ of 2049", x.run(4, 0, 2049), -1);
        Due.is("count(3) then", x.count(3), 1);
        Due.make(x, "g");
        Due.is("the next number", x.file(1, 1), 1);
    }

    private static void fullChangesNothingOfFiles() {
        StripeFiles x = Due.sentence("FULL, EXISTS and NONE change nothing of FILES");
        Due.leaveRoom(x, 1);
        Due.write(x, "f3", 0, Due.bytes("abc"));
        String before = Due.files(x);
        Due.tape(x, Due.bytes("XY"));
        Due.is("WRITE to 8193", x.run(1, 8191, 0), -4);
        Due.is("CUT", x.run(3, 8192, 0), 8191);
        Due.is("CUT back", x.run(3, 8191, 0), 8192);
        Due.tape(x, Due.bytes("XY"));
        Due.is("APPEND to 32769 in all", x.run(2, 0, 0), -4);
        Due.name(x, 0, "g");
        Due.tape(x, Due.bytes("XY"));
        Due.is("WRITE to 32769 in all", x.run(1, 0, 0), -4);
        Due.same("FILES", Due.files(x), before);
        Due.is("SIZE of the one that was not made", x.run(8, 0, 0), -2);
        Due.name(x, 0, "f3");
        Due.is("READ", x.run(4, 8190, 9), 1);
        Due.told(x, "\0");
        Due.is("it counts as an OPERATION", x.count(3), 16);
    }

    private static void existsChangesNothingOfFiles() {
        StripeFiles x = withFile("FULL, EXISTS and NONE change nothing of FILES");
        String before = Due.files(x);
        Due.is("MAKE", x.run(0, 0, 0), -3);
        Due.same("FILES", Due.files(x), before);
        Due.is("READ", x.run(4, 0, 9), 3);
        Due.told(x, "abc");
        Due.is("it counts as an OPERATION", x.count(3), 3);
    }

    private static void noneChangesNothingOfFiles() {
        StripeFiles x = withFile("FULL, EXISTS and NONE change nothing of FILES");
        Due.name(x, 0, "none");
        Due.name(x, 1, "f");
        String before = Due.files(x);
        int[] kinds = {3, 4, 5, 6, 7, 8, 9};
        for (int kind : kinds) {
            Due.is("run(" + kind + ", 0, 0)", x.run(kind, 0, 0), -2);
            Due.same("FILES", Due.files(x), before);
        }
        Due.is("each counts as an OPERATION", x.count(3), 8);
    }

    private static void theTapeOfWriteAndAppendIsEmptyThen() {
        StripeFiles x = withFile("but the TAPE of WRITE and APPEND is empty then");
        Due.tape(x, Due.bytes("XY"));
        Due.is("WRITE to 8193", x.run(1, 8191, 0), -4);
        Due.is("count(4)", x.count(4), 0);
        Due.is("CUT", x.run(3, 8192, 0), 3);
        Due.tape(x, Due.bytes("XY"));
        Due.is("APPEND to 8194", x.run(2, 0, 0), -4);
        Due.is("count(4)", x.count(4), 0);
        Due.tape(x, Due.bytes("Z"));
        Due.is("WRITE takes nothing of what was on it", x.run(1, 0, 0), 1);
        Due.is("READ", x.run(4, 0, 3), 3);
        Due.told(x, "Zbc");
    }

    private static void theTapeOfOthersStays() {
        StripeFiles x = withFile("but the TAPE of WRITE and APPEND is empty then");
        Due.name(x, 1, "g");
        Due.tape(x, Due.bytes("tape"));
        int[] kinds = {0, 3, 4, 7, 8, 9, 6, 6, 5};
        int[] answers = {-3, 3, 2, -2, 2, -2, 0, -2, -2};
        for (int i = 0; i < kinds.length; i++) {
            Due.is("run(" + kinds[i] + ", 2, 2)", x.run(kinds[i], kinds[i] == 4 ? 0 : 2, 2), answers[i]);
            Due.is("count(4)", x.count(4), 4);
        }
    }
}
