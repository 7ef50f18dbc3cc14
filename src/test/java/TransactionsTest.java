/** Promises 1 to 5 and 16 to 18: transactions, marks, what is READ and CHANGED, and the verdicts. */
public final class TransactionsTest {
    public static void main(String[] args) {
        newObject();
        begin();
        drop();
        commit();
        commitIsRefused();
        commitMerges();
        fullByNodes();
        fullByBlocks();
        fullByItems();
        check();
        mark();
        back();
        aboutRead();
        aboutChanged();
        aboutRest();
        unknownTransactions();
        Run.end();
    }

    private static void newObject() {
        new Run("1 a new object").calls(
            "count(0) = 0", "count(1) = 1", "count(2) = 1", "count(3) = 0", "count(4) = 0", "count(5) = 0",
            "kind(NONE, 0) = 1", "list(NONE, 0) = 0", "recover() throws IllegalStateException", "drop(0) throws IllegalStateException");
        Run power = new Run("1 the power stays");
        for (int n = 1; n <= 20; n++) {
            power.calls("begin() = 0", n % 2 == 1 ? "make(0, 1, true)" : "remove(0, 1) = true", "commit(0) = " + n);
        }
        power.call("count(4) = 0");
    }

    private static void begin() {
        new Run("2 begin").calls(
            "begin() = 0", "begin() = 1", "begin() = 2", "begin() = 3", "begin() = 4", "begin() = 5",
            "begin() throws UnsupportedOperationException", "count(3) = 6",
            "drop(3) = 0", "drop(1) = 0", "begin() = 1", "begin() = 3", "begin() throws UnsupportedOperationException",
            "commit(4) = 1", "begin() = 4", "about(4, 2) = 1");
        new Run("2 begin while down").calls(
            "begin() = 0", "make(0, 1, true)", "power(0)", "commit(0) = LOST", "begin() throws IllegalStateException",
            "recover() = 0", "begin() = 0");
        new Run("2 the base is the tree at begin").calls(
            "begin() = 0", "begin() = 1", "make(0, 1, true)", "commit(0) = 1", "kind(1, 1) = 0", "begin() = 0", "kind(0, 1) = 1");
        new Run("2 nothing of the one before it stays").calls(
            "begin() = 0", "make(0, 1, true)", "mark(0) = 1", "drop(0) = 1",
            "begin() = 0", "about(0, 0) = 0", "about(0, 1) = 0", "about(0, 2) = 1", "about(0, 3) = 0", "kind(0, 1) = 0",
            "back(0) throws UnsupportedOperationException");
    }

    private static void drop() {
        new Run("3 drop").calls(
            "begin() = 0", "drop(0) = 0", "drop(0) throws IllegalStateException",
            "begin() = 0", "make(0, 1, false)", "append(0, 1, 5) = 1", "drop(0) = 1", "count(0) = 0", "count(1) = 1", "kind(NONE, 1) = 0",
            "begin() = 0", "make(0, 1, false)", "append(0, 1, 5) = 1", "commit(0) = 1",
            "begin() = 0", "read(0, 1, 0) = 5", "read(0, 1, 0) = 5", "drop(0) = 3", "count(3) = 0");
    }

    private static void commit() {
        new Run("4 commit").calls(
            "begin() = 0", "make(0, 1, false)", "append(0, 1, 7) = 1", "commit(0) = 1", "commit(0) throws IllegalStateException",
            "read(NONE, 1, 0) = 7", "count(0) = 1", "count(3) = 0",
            "begin() = 0", "commit(0) = 2", "count(5) = 6");
        new Run("4 nothing is written without what comes").calls(
            "begin() = 0", "make(0, 1, false)", "append(0, 1, 7) = 1", "append(0, 1, 8) = 2", "commit(0) = 1", "count(5) = 7",
            "begin() = 0", "begin() = 1", "write(0, 1, 0, 9) = 2", "write(1, 1, 0, 9) = 2", "about(1, 1) = 1",
            "commit(0) = 2", "count(5) = 11", "power(0)", "check(1) = 0", "commit(1) = 3", "count(5) = 11", "count(4) = 0");
        new Run("4 record blocks hold four").calls(
            "begin() = 0", "make(0, 1, true)", "make(0, 2, true)", "about(0, 1) = 4", "commit(0) = 1", "count(5) = 6",
            "begin() = 0", "make(0, 3, false)", "append(0, 3, 1) = 1", "append(0, 3, 1) = 2", "about(0, 1) = 5", "commit(0) = 2", "count(5) = 13");
        new Run("4 home blocks of directories").calls(
            "begin() = 0", "make(0, 1, true)", "make(0, 2, true)", "make(0, 0x11, true)", "commit(0) = 1", "count(5) = 8",
            // 0x11 to 0x21: an entry of two directories each, nothing else
            "begin() = 0", "move(0, 0x11, 0x21) = true", "about(0, 1) = 2", "commit(0) = 2", "count(5) = 13",
            // a directory that goes has no home block, its parent has
            "begin() = 0", "remove(0, 0x21) = true", "remove(0, 2) = true", "about(0, 1) = 1", "commit(0) = 3", "count(5) = 17", "count(1) = 2");
        homeBlocksOfFiles();
    }

    private static void homeBlocksOfFiles() {
        Run run = new Run("4 home blocks of files").calls("begin() = 0", "make(0, 1, false)");
        for (int n = 1; n <= 17; n++) {
            run.call("append(0, 1, " + n + ") = " + n);
        }
        // E = 1 + 1 + 1 + 17: 5 of the record, the mark, root, file, 3 of words, the clear
        run.calls("about(0, 1) = 20", "commit(0) = 1", "count(5) = 12", "count(2) = 5",
            // one word: record, mark, its eight, clear
            "begin() = 0", "write(0, 1, 8, 0) = 17", "commit(0) = 2", "count(5) = 16",
            // two words of one eight, one of another one
            "begin() = 0", "write(0, 1, 0, 0) = 17", "write(0, 1, 7, 0) = 17", "write(0, 1, 16, 0) = 17", "commit(0) = 3", "count(5) = 21",
            // a 0 behind the others does not come, but its eight was not all within the length
            "begin() = 0", "append(0, 1, 0) = 18", "about(0, 1) = 1", "commit(0) = 4", "count(5) = 26",
            // what goes is behind the length: only the length has a home block
            "begin() = 0", "cut(0, 1, 12) = 6", "about(0, 1) = 5", "commit(0) = 5", "count(5) = 31", "count(2) = 4",
            "begin() = 0", "cut(0, 1, 0) = 12", "about(0, 1) = 10", "commit(0) = 6", "count(5) = 37", "count(2) = 2",
            // a file that is moved keeps its blocks
            "begin() = 0", "move(0, 1, 2) = false", "commit(0) = 7", "count(5) = 41");
    }

    private static void commitIsRefused() {
        new Run("4 refused by a word").calls(
            "begin() = 0", "make(0, 1, false)", "append(0, 1, 7) = 1", "append(0, 1, 8) = 2", "commit(0) = 1",
            "begin() = 0", "begin() = 1", "begin() = 2", "read(0, 1, 0) = 7", "read(2, 1, 1) = 8",
            "write(1, 1, 0, 9) = 2", "commit(1) = 2",
            "check(0) = REFUSED", "commit(0) = REFUSED", "commit(0) throws IllegalStateException", "count(0) = 2", "commit(2) = 3");
        new Run("4 the same value again is not refused").calls(
            "begin() = 0", "make(0, 1, false)", "append(0, 1, 7) = 1", "commit(0) = 1",
            "begin() = 0", "read(0, 1, 0) = 7",
            "begin() = 1", "write(1, 1, 0, 9) = 1", "commit(1) = 2", "check(0) = REFUSED",
            "begin() = 1", "write(1, 1, 0, 7) = 1", "commit(1) = 3", "check(0) = 0", "commit(0) = 4");
        new Run("4 refused by an entry").calls(
            "begin() = 0", "make(0, 1, true)", "make(0, 2, false)", "commit(0) = 1",
            "begin() = 0", "begin() = 1", "kind(0, 3) = 0", "make(1, 3, true)", "commit(1) = 2", "commit(0) = REFUSED",
            "begin() = 0", "begin() = 1", "kind(0, 2) = 2", "move(1, 2, 4) = false", "commit(1) = 3", "commit(0) = REFUSED",
            // another node of the same name is another value of the entry, not of HAS
            "begin() = 0", "begin() = 1", "begin() = 2", "kind(0, 4) = 2", "list(2, 0) = 26",
            "remove(1, 4) = false", "make(1, 4, false)", "commit(1) = 4", "commit(0) = REFUSED", "commit(2) = 5");
        new Run("4 refused by HAS").calls(
            "begin() = 0", "make(0, 1, true)", "commit(0) = 1",
            "begin() = 0", "begin() = 1", "begin() = 2", "list(0, 1) = 0", "list(2, 0) = 2",
            "make(1, 0x15, false)", "commit(1) = 2", "commit(0) = REFUSED", "check(2) = 0",
            "begin() = 0", "make(0, 15, true)", "commit(0) = 3", "check(2) = REFUSED", "drop(2) = 15",
            "begin() = 0", "begin() = 1", "remove(0, 0x15) = false", "remove(0, 1) = true",
            "make(1, 0x16, false)", "commit(1) = 4", "check(0) = REFUSED", "commit(0) = REFUSED", "list(NONE, 1) = 96");
        new Run("4 refused by a length, or a node that went").calls(
            "begin() = 0", "make(0, 1, false)", "commit(0) = 1",
            "begin() = 0", "begin() = 1", "begin() = 2", "length(0, 1) = 0", "append(2, 1, 4) = 1",
            "append(1, 1, 3) = 1", "commit(1) = 2", "commit(0) = REFUSED", "commit(2) = REFUSED",
            "begin() = 0", "begin() = 1", "length(0, 1) = 1", "remove(1, 1) = false", "commit(1) = 3", "commit(0) = REFUSED");
        new Run("4 refused though the view is back").calls(
            "begin() = 0", "begin() = 1", "mark(0) = 1", "make(0, 1, true)", "back(0) = 0", "about(0, 1) = 0",
            "make(1, 1, true)", "commit(1) = 1", "commit(0) = REFUSED");
    }

    private static void commitMerges() {
        new Run("4 words that were not looked at come together").calls(
            "begin() = 0", "make(0, 1, false)", "append(0, 1, 1) = 1", "append(0, 1, 2) = 2", "commit(0) = 1",
            "begin() = 0", "begin() = 1", "write(0, 1, 0, 8) = 2", "write(1, 1, 0, 9) = 2", "write(1, 1, 1, 7) = 2",
            "commit(1) = 2", "commit(0) = 3", "read(NONE, 1, 0) = 8", "read(NONE, 1, 1) = 7");
        new Run("4 a file is moved and written").calls(
            "begin() = 0", "make(0, 1, true)", "make(0, 2, false)", "append(0, 2, 1) = 1", "commit(0) = 1",
            "begin() = 0", "begin() = 1", "make(0, 0x11, true)", "append(1, 2, 2) = 2",
            "commit(1) = 2", "commit(0) = 3", "length(NONE, 2) = 2", "kind(NONE, 0x11) = 1", "count(1) = 4", "count(2) = 5");
        new Run("4 what others put in stays").calls(
            "begin() = 0", "make(0, 1, true)", "commit(0) = 1", "begin() = 0", "begin() = 1",
            "make(0, 2, true)", "make(0, 0x11, false)", "append(0, 0x11, 3) = 1", "make(1, 3, false)", "append(1, 3, 4) = 1", "make(1, 0x12, true)",
            "commit(0) = 2", "count(5) = 14", "commit(1) = 3", "count(5) = 23",
            "list(NONE, 0) = 14", "list(NONE, 1) = 6", "read(NONE, 0x11, 0) = 3", "read(NONE, 3, 0) = 4", "count(1) = 6", "count(2) = 8",
            "begin() = 0", "list(0, 1) = 6", "about(0, 2) = 6", "drop(0) = 16");
        new Run("4 words behind the length are 0").calls(
            "begin() = 0", "make(0, 1, false)", "append(0, 1, 1) = 1", "append(0, 1, 0) = 2", "commit(0) = 1",
            "begin() = 0", "begin() = 1", "write(0, 1, 1, 6) = 2", "cut(1, 1, 1) = 1", "commit(0) = 2", "commit(1) = 3",
            "begin() = 0", "append(0, 1, 0) = 2", "about(0, 1) = 1", "commit(0) = 4", "read(NONE, 1, 1) = 0");
    }

    private static void fullByNodes() {
        Run run = new Run("4 full by nodes").calls("begin() = 0", "make(0, 1, true)", "make(0, 2, true)");
        for (int name = 1; name <= 15; name++) {
            run.calls("make(0, " + (16 + name) + ", true)", "make(0, " + (32 + name) + ", true)");
        }
        for (int name = 3; name <= 9; name++) {
            run.call("make(0, " + name + ", true)");
        }
        run.calls("about(0, 2) = 40", "check(0) = 0", "make(0, 10, true)", "check(0) = FULL", "commit(0) = FULL",
            "about(0, 2) = 41", "count(0) = 0", "count(5) = 0", "remove(0, 10) = true", "commit(0) = 1", "count(1) = 40",
            "begin() = 0", "begin() = 1", "make(0, 11, true)", "commit(0) = FULL", "remove(1, 9) = true", "commit(1) = 2", "commit(0) = 3", "count(1) = 40");
        Run others = new Run("4 full by nodes of others").calls("begin() = 0", "begin() = 1", "make(0, 1, true)", "make(1, 2, true)");
        for (int name = 1; name <= 15; name++) {
            others.calls("make(0, " + (16 + name) + ", true)", "make(1, " + (32 + name) + ", true)");
        }
        others.calls("commit(0) = 1", "check(1) = 0", "begin() = 0", "make(0, 3, true)");
        for (int name = 1; name <= 7; name++) {
            others.call("make(0, " + (48 + name) + ", true)");
        }
        others.calls("commit(0) = 2", "count(1) = 25", "about(1, 2) = 17", "check(1) = FULL", "remove(1, 0x2F) = true", "commit(1) = 3", "count(1) = 40");
    }

    private static void fullByBlocks() {
        Run run = new Run("4 full by blocks").call("begin() = 0");
        for (int name = 1; name <= 10; name++) {
            run.call("make(0, " + name + ", false)");
            int words = name <= 9 ? 42 : 57;
            for (int n = 1; n <= words; n++) {
                run.call("append(0, " + name + ", 0) = " + n);
            }
        }
        // The root, 9 * 7 and 9 are 73; 17 directories more are 90.
        run.call("make(0, 15, true)");
        for (int name = 1; name <= 15; name++) {
            run.call("make(0, " + (0xF0 + name) + ", true)");
        }
        run.calls("make(0, 14, true)", "check(0) = 0", "make(0, 13, true)", "check(0) = FULL", "remove(0, 13) = true",
            "append(0, 1, 0) = 43", "check(0) = 0", "commit(0) = 1", "count(2) = 90");
    }

    private static void fullByItems() {
        Run run = new Run("4 full by what comes").calls("begin() = 0", "make(0, 1, false)", "make(0, 2, false)");
        for (int n = 1; n <= 59; n++) {
            run.calls("append(0, 1, 1) = " + n, "append(0, 2, 1) = " + n);
        }
        // 2 entries, 2 files, 2 lengths, 118 words
        run.calls("about(0, 1) = 124", "check(0) = 0", "append(0, 1, 0) = 60", "check(0) = 0", "append(0, 1, 1) = 61",
            "about(0, 1) = 125", "check(0) = FULL", "commit(0) = FULL", "count(3) = 1", "write(0, 1, 60, 0) = 61", "commit(0) = 1",
            // 31 of the record, mark, root, files, 8 + 8 of words, clear
            "count(5) = 52");
        Run already = new Run("4 what is so already does not come").calls("begin() = 0", "make(0, 1, false)", "make(0, 2, false)");
        for (int n = 1; n <= 64; n++) {
            already.calls("append(0, 1, 0) = " + n, "append(0, 2, 0) = " + n);
        }
        already.calls("commit(0) = 1", "begin() = 0", "begin() = 1");
        for (int n = 0; n < 64; n++) {
            already.calls("write(0, 1, " + n + ", 5) = 64", "write(0, 2, " + n + ", 5) = 64");
        }
        already.calls("about(0, 1) = 128", "check(0) = FULL");
        for (int n = 0; n < 4; n++) {
            already.call("write(1, 1, " + n + ", 5) = 64");
        }
        already.calls("commit(1) = 2", "about(0, 1) = 128", "check(0) = 0", "commit(0) = 3");
    }

    private static void check() {
        new Run("5 check").calls(
            "begin() = 0", "begin() = 1", "check(0) = 0", "kind(0, 1) = 0", "make(1, 1, true)", "check(1) = 0", "check(0) = 0",
            "power(0)", "check(1) = 0", "power(NONE)", "commit(1) = 1", "check(0) = REFUSED", "check(0) = REFUSED", "count(3) = 1",
            "about(0, 0) = 1", "count(0) = 1", "check(1) throws IllegalStateException", "drop(0) = 1", "check(0) throws IllegalStateException");
    }

    private static void mark() {
        new Run("16 mark").calls(
            "begin() = 0", "begin() = 1", "mark(0) = 1", "mark(0) = 2", "mark(0) = 3", "mark(0) throws UnsupportedOperationException",
            "about(0, 3) = 3", "about(1, 3) = 0", "mark(1) = 1", "back(0) = 2", "mark(0) = 3",
            "drop(0) = 0", "mark(0) throws IllegalStateException");
    }

    private static void back() {
        new Run("17 back").calls(
            "begin() = 0", "back(0) throws UnsupportedOperationException",
            "make(0, 1, false)", "mark(0) = 1", "append(0, 1, 5) = 1", "mark(0) = 2", "write(0, 1, 0, 6) = 1", "make(0, 2, true)",
            "mark(0) = 3", "remove(0, 1) = false", "about(0, 2) = 2",
            "back(0) = 2", "about(0, 2) = 3", "read(0, 1, 0) = 6",
            "back(0) = 1", "read(0, 1, 0) = 5", "kind(0, 2) = 0", "append(0, 1, 9) = 2",
            "back(0) = 0", "length(0, 1) = 0", "back(0) throws UnsupportedOperationException", "commit(0) = 1", "length(NONE, 1) = 0");
        new Run("17 what is READ stays").calls(
            "begin() = 0", "mark(0) = 1", "kind(0, 1) = 0", "list(0, 0) = 0", "about(0, 0) = 16", "back(0) = 0", "about(0, 0) = 16");
        new Run("17 a node made again is another one").calls(
            "begin() = 0", "mark(0) = 1", "make(0, 1, true)", "back(0) = 0", "make(0, 1, true)", "commit(0) = 1",
            "begin() = 0", "kind(0, 1) = 1", "begin() = 1", "remove(1, 1) = true", "make(1, 1, true)", "commit(1) = 2", "commit(0) = REFUSED");
    }

    private static void aboutRead() {
        new Run("18 what is READ").calls(
            "begin() = 0", "make(0, 1, true)", "make(0, 0x11, false)", "append(0, 0x11, 5) = 1", "append(0, 0x11, 6) = 2",
            "about(0, 0) = 1", "commit(0) = 1",
            "begin() = 0", "kind(0, 0) = 1", "about(0, 0) = 0", "kind(0, 1) = 1", "about(0, 0) = 1", "kind(0, 0x11) = 2", "about(0, 0) = 2",
            "kind(0, 0x111) = 0", "about(0, 0) = 2", "kind(0, 0x234) = 0", "about(0, 0) = 3",
            "length(0, 0x11) = 2", "about(0, 0) = 4", "read(0, 0x11, 1) = 6", "about(0, 0) = 5",
            "write(0, 0x11, 0, 9) = 2", "about(0, 0) = 5", "read(0, 0x11, 0) = 9", "about(0, 0) = 5",
            "write(0, 0x11, 0, 5) = 2", "read(0, 0x11, 0) = 5", "about(0, 0) = 6",
            "list(0, 0) = 2", "about(0, 0) = 21", "list(0, 0) = 2", "about(0, 0) = 21",
            "kind(NONE, 5) = 0", "list(NONE, 1) = 2", "read(NONE, 0x11, 0) = 5", "about(0, 0) = 21");
        new Run("18 READ by calls that throw").calls(
            "begin() = 0", "make(0, 1, true)", "make(0, 2, false)", "make(0, 0x11, true)", "commit(0) = 1", "begin() = 0",
            "length(0, 3) throws NoSuchElementException", "about(0, 0) = 1",
            "make(0, 0x41, true) throws NoSuchElementException", "about(0, 0) = 2",
            "make(0, 1, true) throws UnsupportedOperationException", "about(0, 0) = 3",
            "make(0, 0x21, true) throws UnsupportedOperationException", "about(0, 0) = 4",
            "remove(0, 1) throws UnsupportedOperationException", "about(0, 0) = 19",
            "read(0, 2, 0) throws IndexOutOfBoundsException", "about(0, 0) = 20",
            "move(0, 0x11, 0x12) = true", "about(0, 0) = 22",
            "move(0, 0x13, 0x51) throws NoSuchElementException", "about(0, 0) = 23",
            "move(0, 2, 0x61) throws NoSuchElementException", "about(0, 0) = 24",
            "length(0, 16) throws IllegalArgumentException", "about(0, 4) throws IllegalArgumentException", "about(0, 0) = 24");
        new Run("18 HAS that the view has changed is not READ").calls(
            "begin() = 0", "make(0, 1, true)", "list(0, 0) = 2", "about(0, 0) = 15", "list(0, 1) = 0", "about(0, 0) = 15");
    }

    private static void aboutChanged() {
        new Run("18 what is CHANGED").calls(
            "begin() = 0", "about(0, 1) = 0", "make(0, 1, false)", "about(0, 1) = 2", "append(0, 1, 0) = 1", "about(0, 1) = 3",
            "append(0, 1, 4) = 2", "about(0, 1) = 4", "cut(0, 1, 0) = 2", "about(0, 1) = 2", "remove(0, 1) = false", "about(0, 1) = 0",
            "make(0, 2, true)", "make(0, 0x21, true)", "about(0, 1) = 4", "move(0, 0x21, 3) = true", "about(0, 1) = 4",
            "make(0, 4, false)", "append(0, 4, 3) = 1", "append(0, 4, 4) = 2", "append(0, 4, 5) = 3", "commit(0) = 1",
            "begin() = 0", "write(0, 4, 1, 4) = 3", "about(0, 1) = 0", "write(0, 4, 1, 0) = 3", "about(0, 1) = 1",
            "write(0, 4, 1, 4) = 3", "about(0, 1) = 0", "cut(0, 4, 2) = 1", "about(0, 1) = 2", "append(0, 4, 5) = 3", "about(0, 1) = 0",
            "move(0, 4, 5) = false", "about(0, 1) = 2", "move(0, 5, 4) = false", "about(0, 1) = 0",
            "cut(0, 4, 0) = 3", "about(0, 1) = 4", "remove(0, 4) = false", "about(0, 1) = 1",
            "make(0, 4, false)", "about(0, 1) = 2");
    }

    private static void aboutRest() {
        new Run("18 nodes and marks").calls(
            "begin() = 0", "about(0, 2) = 1", "make(0, 1, true)", "make(0, 0x11, false)", "about(0, 2) = 3", "remove(0, 0x11) = false", "about(0, 2) = 2",
            "mark(0) = 1", "about(0, 3) = 1", "back(0) = 0", "about(0, 3) = 0",
            "about(0, 4) throws IllegalArgumentException", "about(0, -1) throws IllegalArgumentException",
            "about(1, 4) throws IllegalStateException", "about(NONE, 0) throws IllegalStateException");
    }

    private static void unknownTransactions() {
        Run run = new Run("no such transaction").call("begin() = 0");
        for (int t : new int[] {-1, -2, 1, 5, 6, Integer.MAX_VALUE, Integer.MIN_VALUE}) {
            run.calls("drop(" + t + ") throws IllegalStateException", "commit(" + t + ") throws IllegalStateException",
                "check(" + t + ") throws IllegalStateException", "mark(" + t + ") throws IllegalStateException",
                "back(" + t + ") throws IllegalStateException", "about(" + t + ", 9) throws IllegalStateException",
                "make(" + t + ", 0, true) throws IllegalStateException", "remove(" + t + ", 0) throws IllegalStateException",
                "move(" + t + ", 0, 0) throws IllegalStateException", "write(" + t + ", -1, 0, 0) throws IllegalStateException",
                "append(" + t + ", -1, 0) throws IllegalStateException", "cut(" + t + ", -1, -1) throws IllegalStateException");
            if (t != CommitTree.NONE) {
                run.calls("read(" + t + ", -1, 0) throws IllegalStateException", "length(" + t + ", -1) throws IllegalStateException",
                    "kind(" + t + ", -1) throws IllegalStateException", "list(" + t + ", -1) throws IllegalStateException");
            }
        }
    }
}
