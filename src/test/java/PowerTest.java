/** Promises 19 to 21: power, recover and what is counted. */
public final class PowerTest {
    public static void main(String[] args) {
        power();
        everyBlock();
        everyBlockOfRecover();
        recover();
        down();
        count();
        Run.end();
    }

    private static void power() {
        new Run("19 power").calls("power(-2) throws IllegalArgumentException", "power(1001) throws IllegalArgumentException",
            "power(2147483647) throws IllegalArgumentException", "power(-2147483648) throws IllegalArgumentException", "power(1000)", "power(0)", "power(NONE)",
            "begin() = 0", "make(0, 1, true)", "commit(0) = 1", "count(4) = 0");
        new Run("19 from then on, over several commits").calls(
            // two home blocks, so 1 + 1 + 2 + 1 blocks a commit
            "power(7)", "begin() = 0", "make(0, 1, true)", "commit(0) = 1", "count(5) = 5",
            "begin() = 0", "make(0, 2, true)", "commit(0) = LOST", "count(5) = 7", "count(0) = 2", "count(4) = 1",
            "recover() = 3", "count(5) = 10", "kind(NONE, 2) = 1");
        new Run("19 set anew").calls("power(1)", "power(9)", "begin() = 0", "make(0, 1, true)", "commit(0) = 1", "power(NONE)",
            "begin() = 0", "make(0, 2, true)", "commit(0) = 2", "power(5)", "power(1001) throws IllegalArgumentException",
            "begin() = 0", "make(0, 3, true)", "commit(0) = 3", "begin() = 0", "make(0, 4, true)", "commit(0) = LOST", "recover() = 0", "kind(NONE, 4) = 0");
        new Run("19 all transactions are gone").calls("begin() = 0", "begin() = 1", "begin() = 2", "make(1, 1, true)", "power(4)", "commit(1) = LOST", "count(3) = 0",
            "recover() = 3", "count(3) = 0", "check(0) throws IllegalStateException", "check(2) throws IllegalStateException", "begin() = 0");
        new Run("19 it goes once").calls("power(0)", "begin() = 0", "make(0, 1, true)", "commit(0) = LOST", "recover() = 0",
            "begin() = 0", "make(0, 1, true)", "commit(0) = 1");
    }

    /** A commit of 1 record block, mark, 2 home blocks and the clear, cut at each. */
    private static void everyBlock() {
        for (int n = 0; n < 5; n++) {
            boolean counts = n >= 2;
            new Run("19, 20 the power goes at block " + n).calls(
                "begin() = 0", "begin() = 1", "make(0, 1, true)", "power(" + n + ")", "commit(0) = LOST",
                "count(0) = " + (counts ? 1 : 0), "count(1) = 1", "count(2) = 1", "count(3) = 0", "count(4) = 1", "count(5) = " + n,
                "recover() = " + (counts ? 3 : 0), "count(0) = " + (counts ? 1 : 0), "count(1) = " + (counts ? 2 : 1), "count(2) = " + (counts ? 2 : 1),
                "count(3) = 0", "count(4) = 0", "count(5) = " + (counts ? n + 3 : n), "kind(NONE, 1) = " + (counts ? 1 : 0),
                "recover() throws IllegalStateException", "begin() = 0", "commit(0) = " + (counts ? 2 : 1));
        }
        new Run("19 behind the last block").calls("begin() = 0", "make(0, 1, true)", "power(5)", "commit(0) = 1", "count(5) = 5", "count(4) = 0",
            "begin() = 0", "make(0, 2, true)", "commit(0) = LOST", "count(5) = 5", "count(0) = 1", "recover() = 0", "count(5) = 5");
    }

    private static void everyBlockOfRecover() {
        for (int n = 0; n < 3; n++) {
            new Run("20 the power goes again at block " + n).calls(
                "begin() = 0", "make(0, 1, true)", "power(2)", "commit(0) = LOST", "power(" + n + ")",
                "recover() = LOST", "count(4) = 1", "count(0) = 1", "count(1) = 1", "count(2) = 1", "count(5) = " + (2 + n),
                "power(" + n + ")", "recover() = LOST", "count(5) = " + (2 + 2 * n), "begin() throws IllegalStateException",
                "recover() = 3", "count(5) = " + (5 + 2 * n), "count(0) = 1", "count(1) = 2", "kind(NONE, 1) = 1");
        }
        new Run("20 the power stays just so long").calls("begin() = 0", "make(0, 1, true)", "power(2)", "commit(0) = LOST", "power(3)", "recover() = 3",
            "begin() = 0", "make(0, 2, true)", "commit(0) = LOST", "count(5) = 5", "recover() = 0");
    }

    private static void recover() {
        new Run("20 recover").calls("recover() throws IllegalStateException", "power(0)", "recover() throws IllegalStateException",
            "begin() = 0", "recover() throws IllegalStateException", "commit(0) = 1", "recover() throws IllegalStateException");
        new Run("20 what was cut before its mark is forgotten").calls("begin() = 0", "make(0, 1, true)", "power(2)", "commit(0) = LOST", "recover() = 3",
            "begin() = 0", "remove(0, 1) = true", "power(1)", "commit(0) = LOST", "power(0)", "recover() = 0", "kind(NONE, 1) = 1", "count(0) = 1",
            "power(NONE)", "begin() = 0", "kind(0, 1) = 1", "make(0, 0x11, false)", "append(0, 0x11, 4) = 1", "commit(0) = 2", "read(NONE, 0x11, 0) = 4");
        new Run("20 a longer one is put in whole").calls("begin() = 0", "make(0, 1, false)", "append(0, 1, 1) = 1", "make(0, 2, true)", "commit(0) = 1",
            "begin() = 0", "append(0, 1, 2) = 2", "write(0, 1, 0, 9) = 2", "move(0, 1, 0x21) = false", "power(3)", "commit(0) = LOST",
            "length(NONE, 1) throws IllegalStateException", "recover() = 5", "length(NONE, 0x21) = 2", "read(NONE, 0x21, 0) = 9", "read(NONE, 0x21, 1) = 2",
            "kind(NONE, 1) = 0", "count(1) = 3", "count(2) = 4");
    }

    private static void down() {
        new Run("all is down").calls("begin() = 0", "begin() = 1", "make(0, 1, true)", "power(0)", "commit(0) = LOST",
            "begin() throws IllegalStateException", "drop(1) throws IllegalStateException", "commit(1) throws IllegalStateException", "check(1) throws IllegalStateException",
            "make(1, 0, true) throws IllegalStateException", "remove(1, 0) throws IllegalStateException", "move(1, 0, 0) throws IllegalStateException",
            "write(1, -1, 0, 0) throws IllegalStateException", "append(1, -1, 0) throws IllegalStateException", "cut(1, -1, -1) throws IllegalStateException",
            "read(1, -1, 0) throws IllegalStateException", "read(NONE, -1, 0) throws IllegalStateException", "length(NONE, 0) throws IllegalStateException",
            "kind(NONE, 0) throws IllegalStateException", "kind(NONE, -1) throws IllegalStateException", "list(NONE, 0) throws IllegalStateException",
            "mark(1) throws IllegalStateException", "back(1) throws IllegalStateException", "about(1, 0) throws IllegalStateException", "about(1, 9) throws IllegalStateException",
            "power(1001) throws IllegalArgumentException", "count(6) throws IllegalArgumentException", "count(3) = 0", "recover() = 0",
            "drop(1) throws IllegalStateException", "drop(0) throws IllegalStateException", "kind(NONE, 0) = 1", "begin() = 0");
    }

    private static void count() {
        new Run("21 count").calls("count(-1) throws IllegalArgumentException", "count(6) throws IllegalArgumentException", "count(2147483647) throws IllegalArgumentException",
            "begin() = 0", "begin() = 1", "count(3) = 2", "make(0, 1, true)", "make(0, 2, false)", "count(1) = 1", "commit(0) = 1", "count(0) = 1", "count(1) = 3", "count(2) = 3", "count(3) = 1",
            "drop(1) = 0", "count(3) = 0");
        Run run = new Run("21 blocks of a file").calls("begin() = 0", "make(0, 1, false)", "commit(0) = 1", "count(2) = 2");
        for (int n = 1; n <= 64; n++) {
            run.calls("begin() = 0", "append(0, 1, 3) = " + n, "commit(0) = " + (n + 1), "count(2) = " + (2 + (n + 7) / 8));
        }
        new Run("21 a refused one does not count").calls("begin() = 0", "begin() = 1", "make(0, 1, true)", "make(1, 1, true)", "commit(0) = 1", "count(5) = 5",
            "commit(1) = REFUSED", "count(0) = 1", "count(5) = 5", "count(3) = 0");
    }
}
