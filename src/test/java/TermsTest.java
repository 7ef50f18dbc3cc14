/** Each sentence of the document's Terms that names a boundary, one test each; a run's name has the sentence's words. */
public final class TermsTest {
    public static void main(String[] args) {
        calls512();
        names();
        lengths();
        wordsBehindTheLength();
        newNodes();
        root();
        oneEntry();
        paths();
        lookUp();
        entryAndHas();
        viewAndBase();
        noneIsTheTree();
        readIsOfTheBase();
        readAlsoWhenThrown();
        changed();
        changedOfNewNodes();
        marks();
        refused();
        refusedByNodesThatWent();
        whatComes();
        fullByNodes();
        fullByNodesOfOthers();
        fullByBlocks();
        fullByItems();
        nothingIsWritten();
        recordBlocks();
        homeBlocksOfDirectories();
        homeBlocksOfLengths();
        homeBlocksOfWords();
        powerAtTheNextBlock();
        powerBeforeAndBehindTheMark();
        powerAgainInRecover();
        throwsStateFirst();
        throwsChangesNothing();
        Run.end();
    }

    private static Run started(String name) {
        // 1 a directory with a file of two words at 0x12, 2 a file without words, 3 an empty directory;
        // E = 4 + 4 + 1 + 2: 3 blocks of the record, the mark, 6 home blocks, the one that clears
        return new Run(name).calls("begin() = 0", "make(0, 1, true)", "make(0, 0x12, false)", "append(0, 0x12, 5) = 1",
            "append(0, 0x12, 6) = 2", "make(0, 2, false)", "make(0, 3, true)", "commit(0) = 1", "begin() = 0");
    }

    private static void appends(Run run, int t, int path, int from, int to, int word) {
        for (int n = from + 1; n <= to; n++) {
            run.call("append(" + t + ", " + path + ", " + word + ") = " + n);
        }
    }

    private static void calls512() {
        Run run = new Run("used for at most 512 calls: also the last ones answer").calls("begin() = 0", "make(0, 1, false)", "commit(0) = 1");
        for (int n = 1; n <= 127; n++) {
            run.calls("begin() = 0", "append(0, 1, " + n + ") = 1", "cut(0, 1, 0) = 1", "commit(0) = " + (n + 1));
        }
        run.call("count(0) = 128");
    }

    private static void names() {
        Run run = new Run("for each NAME, 1 .. 15, a node, or none").calls("begin() = 0", "list(0, 0) = 0");
        int bits = 0;
        for (int name = 1; name <= 15; name++) {
            bits |= 1 << name;
            run.calls("make(0, " + name + ", true)", "list(0, 0) = " + bits);
        }
        run.calls("make(0, 16, true) throws IllegalArgumentException", "commit(0) = 1", "list(NONE, 0) = 65534", "begin() = 0");
        for (int name = 15; name >= 1; name--) {
            bits &= ~(1 << name);
            run.calls("remove(0, " + name + ") = true", "list(0, 0) = " + bits);
        }
    }

    private static void lengths() {
        Run run = new Run("a LENGTH, 0 .. 64").calls("begin() = 0", "make(0, 1, false)", "length(0, 1) = 0", "read(0, 1, 0) throws IndexOutOfBoundsException");
        appends(run, 0, 1, 0, 64, 3);
        run.calls("length(0, 1) = 64", "read(0, 1, 63) = 3", "read(0, 1, 64) throws IndexOutOfBoundsException",
            "append(0, 1, 3) throws UnsupportedOperationException", "length(0, 1) = 64", "commit(0) = 1", "length(NONE, 1) = 64", "count(2) = 10");
    }

    private static void wordsBehindTheLength() {
        new Run("those from its length on are 0").calls("begin() = 0", "make(0, 1, false)", "append(0, 1, 7) = 1", "append(0, 1, 8) = 2", "append(0, 1, 9) = 3",
            "commit(0) = 1", "begin() = 0",
            // the length and the two words that go
            "cut(0, 1, 1) = 2", "about(0, 1) = 3", "append(0, 1, 0) = 2", "read(0, 1, 1) = 0", "about(0, 1) = 3",
            "append(0, 1, 9) = 3", "about(0, 1) = 1", "write(0, 1, 1, 8) = 3", "about(0, 1) = 0");
        new Run("those from its length on are 0, also of a word that others set").calls(
            "begin() = 0", "make(0, 1, false)", "append(0, 1, 0) = 1", "commit(0) = 1",
            "begin() = 0", "begin() = 1", "write(0, 1, 0, 6) = 1", "cut(1, 1, 0) = 1", "commit(0) = 2", "commit(1) = 3",
            "begin() = 0", "append(0, 1, 0) = 1", "about(0, 1) = 1", "read(0, 1, 0) = 0", "commit(0) = 4", "read(NONE, 1, 0) = 0");
    }

    private static void newNodes() {
        new Run("a node that is made is a new one: in one transaction").calls("begin() = 0", "make(0, 1, false)", "commit(0) = 1",
            "begin() = 0", "begin() = 1", "kind(1, 1) = 2", "remove(0, 1) = false", "make(0, 1, false)", "about(0, 1) = 2", "about(0, 2) = 2",
            "commit(0) = 2", "check(1) = REFUSED");
        new Run("a node that is made is a new one: in two, with nodes of the same number").calls("begin() = 0", "make(0, 1, true)", "commit(0) = 1",
            "begin() = 0", "kind(0, 1) = 1", "begin() = 1", "remove(1, 1) = true", "commit(1) = 2", "check(0) = REFUSED",
            "begin() = 1", "make(1, 1, true)", "commit(1) = 3", "check(0) = REFUSED", "count(1) = 2");
        new Run("a node that is made is a new one: also of what was dropped").calls("begin() = 0", "begin() = 1", "make(0, 1, true)", "make(1, 2, true)",
            "drop(0) = 1", "begin() = 0", "make(0, 1, true)", "make(0, 3, false)", "commit(0) = 1", "commit(1) = 2", "count(1) = 4",
            "list(NONE, 0) = 14", "kind(NONE, 2) = 1", "kind(NONE, 3) = 2");
        new Run("a node that is made is a new one: also behind a mark").calls("begin() = 0", "mark(0) = 1", "make(0, 1, true)", "make(0, 0x11, true)", "back(0) = 0",
            "make(0, 1, true)", "list(0, 1) = 0", "about(0, 1) = 2", "commit(0) = 1", "list(NONE, 1) = 0");
    }

    private static void root() {
        new Run("the ROOT is a directory, always there").calls("kind(NONE, 0) = 1", "begin() = 0", "kind(0, 0) = 1",
            "make(0, 0, true) throws IllegalArgumentException", "make(0, 0, false) throws IllegalArgumentException", "remove(0, 0) throws IllegalArgumentException",
            "make(0, 1, true)", "move(0, 0, 0x11) throws IllegalArgumentException", "move(0, 1, 0) throws IllegalArgumentException",
            "remove(0, 1) = true", "commit(0) = 1", "kind(NONE, 0) = 1", "count(1) = 1", "count(2) = 1");
    }

    private static void oneEntry() {
        started("of each one but the root there is just one entry").calls("move(0, 1, 0x31) = true", "kind(0, 1) = 0", "kind(0, 0x312) = 2", "list(0, 0) = 12",
            "about(0, 2) = 5", "commit(0) = 2", "count(1) = 5", "list(NONE, 0) = 12", "list(NONE, 3) = 2");
    }

    private static void paths() {
        started("a path: seven digits at most, none of them 0").calls(
            "kind(0, 0) = 1", "kind(0, 1) = 1", "kind(0, 15) = 0", "kind(0, 0xFFFFFFF) = 0", "kind(0, 0x1111111) = 0",
            "kind(0, 0x10000000) throws IllegalArgumentException", "kind(0, 0x11111111) throws IllegalArgumentException", "kind(0, 0x7FFFFFFF) throws IllegalArgumentException",
            "kind(0, -1) throws IllegalArgumentException", "kind(0, -2147483648) throws IllegalArgumentException", "kind(0, -15) throws IllegalArgumentException",
            "kind(0, 16) throws IllegalArgumentException", "kind(0, 0x102) throws IllegalArgumentException", "kind(0, 0xFFFFFF0) throws IllegalArgumentException",
            "kind(0, 0xF0FFFFF) throws IllegalArgumentException", "kind(0, 0x1000000) throws IllegalArgumentException");
        Run run = new Run("a path: seven digits at most, and so many names").call("begin() = 0");
        int path = 0;
        for (int deep = 1; deep <= 7; deep++) {
            path = path << 4 | 15;
            run.calls("make(0, " + path + ", true)", "kind(0, " + path + ") = 1");
        }
        run.calls("about(0, 2) = 8", "make(0, " + (path << 4 | 15) + ", true) throws IllegalArgumentException", "remove(0, " + path + ") = true", "about(0, 2) = 7");
    }

    private static void lookUp() {
        started("where there is none there is nothing").calls("kind(0, 4) = 0", "kind(0, 0x41) = 0", "kind(0, 0x412) = 0", "kind(0, 0x31) = 0", "kind(0, 0x311) = 0",
            // of 4 and of 0x31 the entry, and that of 3
            "drop(0) = 3");
        started("a file is reached and names are left: there is nothing").calls("kind(0, 0x21) = 0", "kind(0, 0x211) = 0", "kind(0, 0x121) = 0",
            "length(0, 0x21) throws NoSuchElementException", "remove(0, 0x121) throws NoSuchElementException",
            // of 2, 1 and 0x12 the entry
            "drop(0) = 3");
        started("the root's path looks at no entry").calls("kind(0, 0) = 1", "drop(0) = 0");
    }

    private static void entryAndHas() {
        started("ENTRY (which node, or none), and HAS (whether there is one)").calls("begin() = 1", "begin() = 2", "kind(1, 3) = 1", "list(2, 0) = 14",
            "remove(0, 3) = true", "make(0, 3, true)", "commit(0) = 2", "check(1) = REFUSED", "check(2) = 0",
            "begin() = 0", "remove(0, 3) = true", "commit(0) = 3", "check(2) = REFUSED",
            "begin() = 0", "make(0, 3, false)", "commit(0) = 4", "check(1) = REFUSED", "check(2) = 0", "about(1, 0) = 1", "about(2, 0) = 15");
    }

    private static void viewAndBase() {
        started("the tree as it is when one begins, then with what it does").calls("begin() = 1", "write(0, 0x12, 0, 9) = 2", "make(0, 4, true)",
            "read(0, 0x12, 0) = 9", "read(1, 0x12, 0) = 5", "kind(1, 4) = 0", "kind(NONE, 4) = 0", "commit(0) = 2", "read(1, 0x12, 0) = 5", "kind(1, 4) = 0",
            "kind(NONE, 4) = 1", "begin() = 0", "read(0, 0x12, 0) = 9", "kind(0, 4) = 1");
        Run six = new Run("0 .. 5, each on a view of its own").calls("begin() = 0", "begin() = 1", "begin() = 2", "begin() = 3", "begin() = 4", "begin() = 5");
        for (int t = 0; t <= 5; t++) {
            six.call("make(" + t + ", " + (t + 1) + ", true)");
        }
        for (int t = 0; t <= 5; t++) {
            six.calls("list(" + t + ", 0) = " + (2 << t), "about(" + t + ", 2) = 2");
        }
    }

    private static void noneIsTheTree() {
        started("NONE: the tree itself, as it is now; nothing is READ then").calls("write(0, 0x12, 0, 9) = 2", "make(0, 4, true)", "about(0, 0) = 4",
            "read(NONE, 0x12, 0) = 5", "length(NONE, 0x12) = 2", "kind(NONE, 4) = 0", "list(NONE, 0) = 14", "list(NONE, 3) = 0", "about(0, 0) = 4",
            "length(NONE, 4) throws NoSuchElementException", "read(NONE, 0x12, 2) throws IndexOutOfBoundsException", "list(NONE, 2) throws UnsupportedOperationException",
            "commit(0) = 2", "read(NONE, 0x12, 0) = 9", "kind(NONE, 4) = 1", "count(3) = 0",
            "begin() = 0", "kind(NONE, 1) = 1", "list(NONE, 0) = 30", "read(NONE, 0x12, 1) = 6", "drop(0) = 0");
    }

    private static void readIsOfTheBase() {
        started("READ, if its node is there in the base").calls("make(0, 4, true)", "make(0, 0x41, false)", "append(0, 0x41, 1) = 1", "read(0, 0x41, 0) = 1",
            "list(0, 4) = 2", "kind(0, 0x42) = 0", "drop(0) = 1");
        started("READ, if its value is that of the base").calls("write(0, 0x12, 0, 9) = 2", "about(0, 0) = 3", "read(0, 0x12, 0) = 9", "about(0, 0) = 3",
            "write(0, 0x12, 0, 5) = 2", "read(0, 0x12, 0) = 5", "about(0, 0) = 4", "read(0, 0x12, 0) = 5", "about(0, 0) = 4");
        started("READ, if its value is that of the base: a length").calls("mark(0) = 1", "make(0, 5, true)", "about(0, 0) = 1", "move(0, 2, 0x51) = false", "about(0, 0) = 2",
            "append(0, 0x51, 1) = 1", "about(0, 0) = 3", "length(0, 0x51) = 1", "about(0, 0) = 3", "cut(0, 0x51, 0) = 1", "about(0, 0) = 3");
        started("READ, if its value is that of the base: HAS").calls("remove(0, 3) = true", "about(0, 0) = 16", "make(0, 4, true)", "about(0, 0) = 17",
            // of 3 and 4 HAS is another one, 13 are as they were
            "list(0, 0) = 22", "about(0, 0) = 30", "make(0, 3, false)", "about(0, 0) = 30", "list(0, 0) = 30", "about(0, 0) = 31");
        started("READ, if its value is that of the base: an entry").calls("move(0, 3, 4) = true", "about(0, 0) = 2", "kind(0, 3) = 0", "kind(0, 4) = 1", "about(0, 0) = 2",
            "list(0, 4) = 0", "about(0, 0) = 17", "drop(0) = 17");
    }

    /** What each call looks at, of a new transaction; drop() tells how many. */
    private static void readAlsoWhenThrown() {
        String[][] looks = {
            {"kind(0, 0) = 1", "0"}, {"kind(0, 1) = 1", "1"}, {"kind(0, 4) = 0", "1"}, {"kind(0, 0x12) = 2", "2"}, {"kind(0, 0x13) = 0", "2"}, {"kind(0, 0x121) = 0", "2"},
            {"kind(0, 0x456) = 0", "1"}, {"kind(0, 16) throws IllegalArgumentException", "0"},
            {"length(0, 0x12) = 2", "3"}, {"length(0, 1) throws UnsupportedOperationException", "1"}, {"length(0, 0) throws UnsupportedOperationException", "0"},
            {"length(0, 0x13) throws NoSuchElementException", "2"}, {"length(0, 16) throws IllegalArgumentException", "0"},
            {"read(0, 0x12, 1) = 6", "4"}, {"read(0, 0x12, 2) throws IndexOutOfBoundsException", "3"}, {"read(0, 0x12, -1) throws IndexOutOfBoundsException", "3"},
            {"read(0, 1, 0) throws UnsupportedOperationException", "1"}, {"read(0, 4, 0) throws NoSuchElementException", "1"},
            {"write(0, 0x12, 1, 9) = 2", "3"}, {"write(0, 0x12, 2, 9) throws IndexOutOfBoundsException", "3"}, {"write(0, 3, 0, 9) throws UnsupportedOperationException", "1"},
            {"write(0, 0x34, 0, 9) throws NoSuchElementException", "2"},
            {"append(0, 0x12, 9) = 3", "3"}, {"append(0, 2, 9) = 1", "2"}, {"append(0, 1, 9) throws UnsupportedOperationException", "1"}, {"append(0, 0x21, 9) throws NoSuchElementException", "1"},
            {"cut(0, 0x12, 1) = 1", "3"}, {"cut(0, 0x12, 2) = 0", "3"}, {"cut(0, 0x12, 3) throws IndexOutOfBoundsException", "3"}, {"cut(0, 0x12, 65) throws IllegalArgumentException", "0"},
            {"cut(0, 0x12, -1) throws IllegalArgumentException", "0"}, {"cut(0, 3, 0) throws UnsupportedOperationException", "1"},
            {"list(0, 0) = 14", "15"}, {"list(0, 1) = 4", "16"}, {"list(0, 0x12) throws UnsupportedOperationException", "2"}, {"list(0, 4) throws NoSuchElementException", "1"},
            {"make(0, 4, true)", "1"}, {"make(0, 0x31, false)", "2"}, {"make(0, 0x45, true) throws NoSuchElementException", "1"}, {"make(0, 0x21, true) throws UnsupportedOperationException", "1"},
            {"make(0, 0x12, true) throws UnsupportedOperationException", "2"}, {"make(0, 0x1211, true) throws NoSuchElementException", "2"}, {"make(0, 0, true) throws IllegalArgumentException", "0"},
            {"remove(0, 2) = false", "1"}, {"remove(0, 0x12) = false", "2"}, {"remove(0, 3) = true", "16"}, {"remove(0, 1) throws UnsupportedOperationException", "16"},
            {"remove(0, 4) throws NoSuchElementException", "1"}, {"remove(0, 0x21) throws NoSuchElementException", "1"}, {"remove(0, 0) throws IllegalArgumentException", "0"},
            {"move(0, 2, 4) = false", "2"}, {"move(0, 2, 0x31) = false", "3"}, {"move(0, 0x12, 0x13) = false", "3"}, {"move(0, 3, 0x11) = true", "3"},
            {"move(0, 4, 0x31) throws NoSuchElementException", "1"}, {"move(0, 2, 0x45) throws NoSuchElementException", "2"}, {"move(0, 1, 0x21) throws UnsupportedOperationException", "2"},
            {"move(0, 2, 0x12) throws UnsupportedOperationException", "3"}, {"move(0, 2, 2) throws IllegalArgumentException", "0"}, {"move(0, 2, 0x21) throws IllegalArgumentException", "0"},
            {"mark(0) = 1", "0"}, {"back(0) throws UnsupportedOperationException", "0"}, {"about(0, 1) = 0", "0"}, {"about(0, 9) throws IllegalArgumentException", "0"}, {"check(0) = 0", "0"},
        };
        for (String[] look : looks) {
            started("looked at is READ (also when the call throws then)").calls(look[0], "about(0, 0) = " + look[1], "drop(0) = " + look[1]);
        }
    }

    private static void changed() {
        started("CHANGED is each item but HAS with another value than in the base").calls("about(0, 1) = 0", "make(0, 0x31, true)", "remove(0, 0x31) = true", "about(0, 1) = 0",
            "remove(0, 3) = true", "about(0, 1) = 1", "write(0, 0x12, 0, 5) = 2", "about(0, 1) = 1", "write(0, 0x12, 0, 0) = 2", "about(0, 1) = 2",
            "append(0, 0x12, 0) = 3", "about(0, 1) = 3", "append(0, 0x12, -1) = 4", "about(0, 1) = 4", "cut(0, 0x12, 2) = 2", "about(0, 1) = 2");
        started("CHANGED are items of nodes that are there in its view").calls("append(0, 2, 7) = 1", "about(0, 1) = 2", "remove(0, 2) = false", "about(0, 1) = 1",
            "remove(0, 0x12) = false", "about(0, 1) = 2", "remove(0, 1) = true", "about(0, 1) = 2");
    }

    private static void changedOfNewNodes() {
        new Run("of nodes that are there in its view, not in its base, each that is not none, or 0, and the node").calls("begin() = 0",
            "make(0, 1, true)", "about(0, 1) = 2", "make(0, 0x11, false)", "about(0, 1) = 4", "append(0, 0x11, 0) = 1", "about(0, 1) = 5", "append(0, 0x11, 0) = 2", "about(0, 1) = 5",
            "write(0, 0x11, 1, 3) = 2", "about(0, 1) = 6", "cut(0, 0x11, 0) = 2", "about(0, 1) = 4", "remove(0, 0x11) = false", "about(0, 1) = 2", "remove(0, 1) = true", "about(0, 1) = 0");
    }

    private static void marks() {
        started("MARKS: three at most").calls("mark(0) = 1", "mark(0) = 2", "mark(0) = 3", "mark(0) throws UnsupportedOperationException", "about(0, 3) = 3", "back(0) = 2", "mark(0) = 3");
        started("back to what it was at the latest one").calls("mark(0) = 1", "append(0, 2, 1) = 1", "mark(0) = 2", "append(0, 2, 2) = 2", "mark(0) = 3", "remove(0, 2) = false",
            "back(0) = 2", "length(0, 2) = 2", "back(0) = 1", "length(0, 2) = 1", "back(0) = 0", "length(0, 2) = 0", "about(0, 1) = 0", "back(0) throws UnsupportedOperationException");
        started("what is READ stays").calls("mark(0) = 1", "kind(0, 4) = 0", "read(0, 0x12, 0) = 5", "back(0) = 0", "about(0, 0) = 5", "begin() = 1", "make(1, 4, true)", "commit(1) = 2", "commit(0) = REFUSED");
    }

    private static void refused() {
        String[][] pairs = {
            // what one looks at, what another one does, whether that is another value
            {"kind(0, 4) = 0", "make(1, 4, true)", "REFUSED"}, {"kind(0, 3) = 1", "remove(1, 3) = true", "REFUSED"}, {"kind(0, 3) = 1", "move(1, 3, 4) = true", "REFUSED"},
            {"kind(0, 3) = 1", "make(1, 0x31, true)", "0"}, {"kind(0, 4) = 0", "make(1, 5, true)", "0"}, {"kind(0, 0x12) = 2", "append(1, 0x12, 1) = 3", "0"},
            {"kind(0, 0x12) = 2", "move(1, 1, 4) = true", "REFUSED"}, {"kind(0, 0x121) = 0", "write(1, 0x12, 0, 1) = 2", "0"},
            {"length(0, 0x12) = 2", "append(1, 0x12, 1) = 3", "REFUSED"}, {"length(0, 0x12) = 2", "cut(1, 0x12, 1) = 1", "REFUSED"}, {"length(0, 0x12) = 2", "write(1, 0x12, 1, 9) = 2", "0"},
            {"read(0, 0x12, 0) = 5", "write(1, 0x12, 0, 9) = 2", "REFUSED"}, {"read(0, 0x12, 0) = 5", "write(1, 0x12, 1, 9) = 2", "0"}, {"read(0, 0x12, 0) = 5", "write(1, 0x12, 0, 5) = 2", "0"},
            {"write(0, 0x12, 0, 7) = 2", "write(1, 0x12, 0, 9) = 2", "0"}, {"write(0, 0x12, 0, 7) = 2", "append(1, 0x12, 9) = 3", "REFUSED"},
            {"append(0, 0x12, 7) = 3", "append(1, 0x12, 7) = 3", "REFUSED"}, {"append(0, 0x12, 7) = 3", "write(1, 0x12, 0, 9) = 2", "0"}, {"cut(0, 0x12, 1) = 1", "cut(1, 0x12, 0) = 2", "REFUSED"},
            {"cut(0, 0x12, 2) = 0", "cut(1, 0x12, 1) = 1", "REFUSED"}, {"list(0, 0) = 14", "make(1, 15, true)", "REFUSED"}, {"list(0, 0) = 14", "remove(1, 2) = false", "REFUSED"},
            {"list(0, 0) = 14", "make(1, 0x31, true)", "0"}, {"list(0, 3) = 0", "make(1, 0x31, true)", "REFUSED"}, {"list(0, 3) = 0", "make(1, 4, true)", "0"},
            {"make(0, 4, true)", "make(1, 4, true)", "REFUSED"}, {"make(0, 4, true)", "make(1, 5, true)", "0"}, {"make(0, 0x31, true)", "remove(1, 3) = true", "REFUSED"},
            {"remove(0, 3) = true", "make(1, 0x31, true)", "REFUSED"}, {"remove(0, 2) = false", "append(1, 2, 1) = 1", "0"}, {"remove(0, 2) = false", "remove(1, 2) = false", "REFUSED"},
            {"move(0, 2, 4) = false", "move(1, 2, 5) = false", "REFUSED"}, {"move(0, 2, 4) = false", "move(1, 3, 4) = true", "REFUSED"}, {"move(0, 2, 4) = false", "append(1, 2, 1) = 1", "0"},
            {"move(0, 1, 0x31) = true", "move(1, 3, 0x11) = true", "REFUSED"}, {"move(0, 1, 4) = true", "make(1, 0x11, true)", "0"}, {"move(0, 0x12, 4) = false", "move(1, 1, 0x31) = true", "REFUSED"},
        };
        for (String[] pair : pairs) {
            boolean stale = pair[2].equals("REFUSED");
            started("REFUSED, if an item that it has READ has another value: " + pair[0] + ", " + pair[1]).calls("begin() = 1", pair[0], "check(0) = 0", pair[1], "check(0) = 0",
                "commit(1) = 2", "check(0) = " + pair[2], "commit(0) = " + (stale ? "REFUSED" : "3"), "count(0) = " + (stale ? 2 : 3), "count(3) = 0");
        }
        started("REFUSED by the value, not by what came between").calls("read(0, 0x12, 0) = 5", "begin() = 1", "write(1, 0x12, 0, 6) = 2", "append(1, 0x12, 1) = 3", "commit(1) = 2", "check(0) = REFUSED",
            "begin() = 1", "write(1, 0x12, 0, 5) = 3", "commit(1) = 3", "check(0) = REFUSED", "begin() = 1", "cut(1, 0x12, 2) = 1", "commit(1) = 4", "check(0) = 0", "commit(0) = 5");
    }

    private static void refusedByNodesThatWent() {
        started("or its node is not there any more").calls("begin() = 1", "list(0, 3) = 0", "remove(1, 3) = true", "commit(1) = 2", "commit(0) = REFUSED", "kind(NONE, 3) = 0");
        started("or its node is not there any more: it went with what it was in").calls("begin() = 1", "length(0, 0x12) = 2", "remove(1, 0x12) = false", "remove(1, 1) = true",
            "commit(1) = 2", "check(0) = REFUSED", "commit(0) = REFUSED");
        started("or its node is not there any more: a file, and one that has its name").calls("begin() = 1", "read(0, 0x12, 0) = 5", "remove(1, 0x12) = false", "make(1, 0x12, false)",
            "append(1, 0x12, 5) = 1", "append(1, 0x12, 6) = 2", "commit(1) = 2", "commit(0) = REFUSED");
    }

    private static void whatComes() {
        started("what is not so in the tree already").calls("begin() = 1", "write(0, 0x12, 0, 8) = 2", "write(0, 0x12, 1, 8) = 2", "write(1, 0x12, 0, 8) = 2", "write(1, 0x12, 1, 8) = 2",
            "count(5) = 11", "commit(0) = 2", "count(5) = 15", "about(1, 1) = 2", "power(0)", "commit(1) = 3", "count(5) = 15", "count(4) = 0");
        Run run = started("what is not so in the tree already: of five words one").calls("append(0, 2, 1) = 1", "append(0, 2, 1) = 2", "append(0, 2, 1) = 3", "commit(0) = 2", "begin() = 0", "begin() = 1",
            "write(0, 0x12, 0, 8) = 2", "write(0, 0x12, 1, 8) = 2", "write(0, 2, 0, 8) = 3", "write(0, 2, 1, 8) = 3", "write(1, 0x12, 0, 8) = 2", "write(1, 0x12, 1, 8) = 2",
            "write(1, 2, 0, 8) = 3", "write(1, 2, 1, 8) = 3", "write(1, 2, 2, 8) = 3", "about(1, 1) = 5");
        // 11 of before, then 1 + 1 + 2 + 1; then 1 + 1 + 2 + 1; then one word of one file: 1 + 1 + 1 + 1
        run.calls("count(5) = 16", "commit(0) = 3", "count(5) = 21", "commit(1) = 4", "count(5) = 25");
    }

    private static void fullByNodes() {
        Run run = new Run("FULL: the tree would have more than 40 nodes").calls("begin() = 0", "make(0, 1, true)", "make(0, 2, true)", "make(0, 3, true)");
        for (int n = 0; n < 36; n++) {
            run.call("make(0, " + (0x11 + n / 12 * 16 + n % 12) + ", true)");
        }
        run.calls("about(0, 2) = 40", "about(0, 1) = 78", "check(0) = 0", "make(0, 4, true)", "check(0) = FULL", "commit(0) = FULL", "count(1) = 1", "count(3) = 1",
            "remove(0, 4) = true", "commit(0) = 1", "count(1) = 40", "begin() = 0", "make(0, 4, false)", "commit(0) = FULL", "remove(0, 0x11) = true", "commit(0) = 2", "count(1) = 40");
    }

    private static void fullByNodesOfOthers() {
        Run run = new Run("FULL: the tree, with what others put in since").calls("begin() = 0", "begin() = 1", "make(0, 1, true)", "make(1, 2, true)");
        for (int name = 1; name <= 15; name++) {
            run.calls("make(0, " + (0x10 + name) + ", true)", "make(1, " + (0x20 + name) + ", true)");
        }
        run.calls("commit(0) = 1", "count(1) = 17", "check(1) = 0", "begin() = 0", "make(0, 3, true)");
        for (int name = 1; name <= 7; name++) {
            run.call("make(0, " + (0x30 + name) + ", true)");
        }
        // 25 nodes, and 16 that come
        run.calls("commit(0) = 2", "count(1) = 25", "about(1, 2) = 17", "check(1) = FULL", "commit(1) = FULL", "remove(1, 0x2F) = true", "check(1) = 0", "commit(1) = 3", "count(1) = 40");
        Run words = new Run("FULL: its blocks, with words that others put in since").call("begin() = 0");
        for (int name = 1; name <= 10; name++) {
            words.call("make(0, " + name + ", false)");
        }
        words.calls("commit(0) = 1", "begin() = 0", "begin() = 1");
        for (int name = 1; name <= 5; name++) {
            appends(words, 0, name, 0, 41, 0);
            appends(words, 1, name + 5, 0, 41, 0);
        }
        // the root, 10 files and 10 * 6 of words are 71; 19 directories more are 90
        words.calls("commit(0) = 2", "count(2) = 41", "make(1, 11, true)");
        for (int name = 1; name <= 15; name++) {
            words.call("make(1, " + (0xB0 + name) + ", true)");
        }
        words.calls("make(1, 12, true)", "make(1, 13, true)", "make(1, 14, true)", "check(1) = 0", "make(1, 15, true)", "check(1) = FULL", "remove(1, 15) = true", "commit(1) = 3", "count(2) = 90");
    }

    private static void fullByBlocks() {
        Run run = new Run("FULL: more than 90 blocks, begun ones too").call("begin() = 0");
        for (int name = 1; name <= 9; name++) {
            run.call("make(0, " + name + ", false)");
            appends(run, 0, name, 0, 49, 0);
        }
        // the root, 9 files of 1 + 7: 73; two files more of 9 would be 91
        run.calls("commit(0) = 1", "count(2) = 73", "begin() = 0");
        for (int name = 10; name <= 15; name++) {
            run.call("make(0, " + name + ", true)");
        }
        for (int n = 1; n <= 11; n++) {
            run.call("make(0, " + (0xA0 + n) + ", false)");
        }
        run.calls("about(0, 2) = 27", "check(0) = 0", "make(0, 0xB1, true)", "check(0) = FULL", "remove(0, 0xB1) = true", "append(0, 0xA1, 0) = 1", "commit(0) = FULL", "cut(0, 0xA1, 0) = 1",
            "append(0, 1, 0) = 50", "commit(0) = 2", "count(2) = 90");
    }

    private static void fullByItems() {
        Run run = new Run("FULL: E is above 124").calls("begin() = 0", "make(0, 1, false)", "make(0, 2, false)");
        appends(run, 0, 1, 0, 64, 1);
        appends(run, 0, 2, 0, 54, 1);
        run.calls("about(0, 1) = 124", "check(0) = 0", "append(0, 2, 1) = 55", "about(0, 1) = 125", "check(0) = FULL", "commit(0) = FULL", "about(0, 1) = 125", "count(0) = 0",
            "write(0, 2, 54, 0) = 55", "about(0, 1) = 124", "check(0) = 0", "commit(0) = 1", "count(1) = 3", "count(2) = 18");
    }

    private static void nothingIsWritten() {
        started("if E is 0, nothing is written").calls("count(5) = 11", "power(0)", "commit(0) = 2", "begin() = 0", "write(0, 0x12, 0, 5) = 2", "make(0, 4, true)", "remove(0, 4) = true", "check(0) = 0",
            "commit(0) = 3", "count(5) = 11", "count(4) = 0", "begin() = 0", "list(0, 0) = 14", "commit(0) = 4", "count(5) = 11",
            "begin() = 0", "make(0, 4, true)", "commit(0) = LOST", "count(5) = 11");
    }

    private static void recordBlocks() {
        for (int items : new int[] {1, 2, 3, 4, 5, 7, 8, 9, 15, 16, 17, 63, 64, 65, 119, 120, 121, 123, 124}) {
            Run run = new Run("E / 4, rounded up, of a record: E = " + items).calls("begin() = 0", "make(0, 1, false)", "make(0, 2, false)");
            appends(run, 0, 1, 0, 64, 0);
            appends(run, 0, 2, 0, 64, 0);
            // two entries, files and lengths: 2, the mark, the root, 2 * (1 + 8), the one that clears
            run.calls("commit(0) = 1", "count(5) = 23", "begin() = 0");
            int eights = 0;
            for (int n = 0; n < items; n++) {
                run.call("write(0, " + (1 + n / 64) + ", " + n % 64 + ", 1) = 64");
                eights += n % 8 == 0 ? 1 : 0;
            }
            int record = items % 4 == 0 ? items / 4 : items / 4 + 1;
            run.calls("about(0, 1) = " + items, "commit(0) = 2", "count(5) = " + (23 + record + 1 + eights + 1));
        }
    }

    private static void homeBlocksOfDirectories() {
        // each: record, mark, home blocks, the one that clears
        homes("a directory that comes itself, and the root with its entry", 1 + 1 + 2 + 1, "make(0, 4, true)");
        homes("a directory with two entries that come, one block", 1 + 1 + 3 + 1, "make(0, 4, true)", "make(0, 5, true)");
        homes("a directory that comes itself, with entries, one block", 2 + 1 + 3 + 1, "make(0, 4, true)", "make(0, 0x41, true)", "move(0, 3, 0x42) = true");
        homes("two directories with an entry that comes", 1 + 1 + 2 + 1, "move(0, 0x12, 0x31) = false");
        homes("one directory with two", 1 + 1 + 1 + 1, "move(0, 2, 4) = false");
        homes("a directory that goes has none", 1 + 1 + 1 + 1, "remove(0, 3) = true");
        started("HOME blocks: what others put in since has none").calls("begin() = 1", "make(1, 0x31, true)", "make(1, 0x32, false)", "append(1, 0x32, 1) = 1", "commit(1) = 2", "count(5) = 19",
            "write(0, 0x12, 0, 9) = 2", "commit(0) = 3", "count(5) = 23");
        homes("a directory with an entry that comes, which goes then", 1 + 1 + 1 + 1, "remove(0, 0x12) = false", "remove(0, 1) = true");
    }

    private static void homes(String what, int blocks, String... calls) {
        started("HOME blocks: " + what).calls("count(5) = 11").calls(calls).calls("commit(0) = 2", "count(5) = " + (11 + blocks));
    }

    private static void homeBlocksOfLengths() {
        homes("a file that comes itself", 1 + 1 + 2 + 1, "make(0, 4, false)");
        homes("a file that comes itself, with a length and a word", 1 + 1 + 3 + 1, "make(0, 4, false)", "append(0, 4, 1) = 1");
        homes("a length that comes alone", 1 + 1 + 2 + 1, "append(0, 2, 0) = 1");
        homes("a length that comes, and no word up to it", 1 + 1 + 1 + 1, "cut(0, 0x12, 1) = 1");
        homes("a length that comes, of a file without words then", 1 + 1 + 1 + 1, "cut(0, 0x12, 0) = 2");
        homes("a word that comes without the length", 1 + 1 + 1 + 1, "write(0, 0x12, 1, 0) = 2");
        homes("a file that goes has none", 1 + 1 + 1 + 1, "append(0, 0x12, 8) = 3", "remove(0, 0x12) = false");
    }

    private static void homeBlocksOfWords() {
        int[][] steps = {
            // length before, cut to, length then, the eights that are written
            {0, 0, 1, 1}, {0, 0, 8, 1}, {0, 0, 9, 2}, {1, 1, 2, 1}, {7, 7, 8, 1}, {7, 7, 9, 2}, {8, 8, 9, 1}, {8, 8, 16, 1}, {8, 8, 17, 2}, {15, 15, 16, 1}, {16, 16, 17, 1},
            {63, 63, 64, 1}, {56, 56, 64, 1}, {55, 55, 64, 2}, {64, 0, 0, 0}, {64, 63, 63, 0}, {64, 56, 56, 0}, {9, 8, 8, 0}, {9, 4, 5, 1}, {17, 8, 9, 1}, {17, 7, 10, 2}, {16, 12, 15, 1},
        };
        for (int[] step : steps) {
            Run run = new Run("one for each eight of its words, up to its length: " + step[0] + ", " + step[1] + ", " + step[2]).calls("begin() = 0", "make(0, 1, false)");
            appends(run, 0, 1, 0, step[0], 1);
            int before = 1 + 1 + (step[0] > 0 ? 1 : 0) + step[0];
            int written = (before + 3) / 4 + 1 + 2 + (step[0] + 7) / 8 + 1;
            run.calls("commit(0) = 1", "count(5) = " + written, "begin() = 0", "cut(0, 1, " + step[1] + ") = " + (step[0] - step[1]));
            appends(run, 0, 1, step[1], step[2], 2);
            int items = 1 + Math.max(step[0], step[2]) - step[1];
            run.calls("about(0, 1) = " + items, "commit(0) = 2", "count(5) = " + (written + (items + 3) / 4 + 1 + 1 + step[3] + 1));
        }
        Run zeros = new Run("or which were not all within its length before").calls("begin() = 0", "make(0, 1, false)");
        appends(zeros, 0, 1, 0, 6, 0);
        zeros.calls("commit(0) = 1", "count(5) = 6", "begin() = 0");
        appends(zeros, 0, 1, 6, 17, 0);
        // the length alone comes, three eights were not within it
        zeros.calls("about(0, 1) = 1", "commit(0) = 2", "count(5) = 13", "begin() = 0", "write(0, 1, 16, 1) = 17", "commit(0) = 3", "count(5) = 17",
            // those that were within it before are not written for the sake of another file
            "begin() = 0", "make(0, 2, true)", "commit(0) = 4", "count(5) = 22");
    }

    private static void powerAtTheNextBlock() {
        new Run("POWER at the n-th block written from then on (0: the next one)").calls("begin() = 0", "make(0, 1, true)", "power(0)", "commit(0) = LOST", "count(5) = 0", "count(4) = 1",
            "recover() = 0", "begin() = 0", "make(0, 1, true)", "power(4)", "commit(0) = LOST", "count(5) = 4", "count(4) = 1", "recover() = 3", "count(5) = 7",
            "begin() = 0", "make(0, 2, true)", "power(5)", "commit(0) = 2", "count(5) = 12", "begin() = 0", "commit(0) = 3", "begin() = 0", "make(0, 3, true)", "commit(0) = LOST", "count(5) = 12");
        new Run("all is DOWN, all transactions are gone").calls("begin() = 0", "begin() = 1", "begin() = 2", "begin() = 3", "begin() = 4", "begin() = 5", "make(3, 1, true)", "count(3) = 6",
            "power(1)", "commit(3) = LOST", "count(3) = 0", "count(4) = 1", "recover() = 0", "count(3) = 0", "check(0) throws IllegalStateException", "check(5) throws IllegalStateException",
            "begin() = 0", "about(0, 0) = 0", "about(0, 1) = 0", "about(0, 3) = 0");
    }

    private static void powerBeforeAndBehindTheMark() {
        new Run("cut before its mark was written: it has not been").calls("begin() = 0", "make(0, 1, false)", "append(0, 1, 1) = 1", "append(0, 1, 2) = 2", "about(0, 1) = 5",
            // two blocks of the record are written, the mark is not
            "power(2)", "commit(0) = LOST", "count(5) = 2", "count(0) = 0", "recover() = 0", "count(5) = 2", "count(0) = 0", "count(1) = 1", "kind(NONE, 1) = 0", "begin() = 0", "commit(0) = 1");
        new Run("behind the mark it counts").calls("begin() = 0", "make(0, 1, false)", "append(0, 1, 1) = 1", "append(0, 1, 2) = 2",
            "power(3)", "commit(0) = LOST", "count(5) = 3", "count(0) = 1", "count(1) = 1", "count(2) = 1", "recover() = 4", "count(5) = 7", "count(0) = 1", "count(1) = 2", "count(2) = 3",
            "read(NONE, 1, 1) = 2", "begin() = 0", "commit(0) = 2");
        new Run("RECOVER writes its home blocks, and the one that clears it: all of them again").calls("begin() = 0", "make(0, 1, false)", "append(0, 1, 1) = 1", "append(0, 1, 2) = 2",
            // all but the one that clears
            "power(6)", "commit(0) = LOST", "count(5) = 6", "count(0) = 1", "count(1) = 1", "recover() = 4", "count(5) = 10", "count(1) = 2", "recover() throws IllegalStateException");
    }

    private static void powerAgainInRecover() {
        new Run("the power may go there, too; then it has to be done anew").calls("begin() = 0", "make(0, 1, true)", "power(2)", "commit(0) = LOST",
            "power(0)", "recover() = LOST", "count(5) = 2", "count(4) = 1", "power(1)", "recover() = LOST", "count(5) = 3", "power(2)", "recover() = LOST", "count(5) = 5", "count(1) = 1", "count(0) = 1",
            "power(3)", "recover() = 3", "count(5) = 8", "count(4) = 0", "count(1) = 2", "count(0) = 1",
            // the fourth block from power(3) on
            "begin() = 0", "make(0, 2, true)", "commit(0) = LOST", "count(5) = 8", "recover() = 0");
    }

    private static void throwsStateFirst() {
        String[] wrong = {
            "drop(T)", "commit(T)", "check(T)", "make(T, 0, true)", "make(T, 16, true)", "remove(T, 0)", "move(T, 0, 0)", "move(T, 1, 1)", "write(T, 16, -1, 0)", "append(T, -1, 0)",
            "cut(T, 16, 65)", "cut(T, 1, -1)", "read(T, 16, -1)", "length(T, 16)", "kind(T, 16)", "list(T, 16)", "mark(T)", "back(T)", "about(T, 4)", "about(T, -1)",
        };
        for (String call : wrong) {
            for (int t : new int[] {1, 5, 6, -2, 2147483647, -2147483648}) {
                new Run("IllegalStateException: there is no such transaction").calls("begin() = 0", call.replace("T", "" + t) + " throws IllegalStateException");
            }
            new Run("IllegalStateException: all is DOWN").calls("begin() = 0", "begin() = 1", "make(0, 1, true)", "power(0)", "commit(0) = LOST", call.replace("T", "1") + " throws IllegalStateException",
                call.replace("T", "NONE") + " throws IllegalStateException", "count(4) = 1", "recover() = 0");
        }
    }

    /** Calls that throw, with a transaction that has done something: view, marks, tree and counts stay. */
    private static void throwsChangesNothing() {
        String[] wrong = {
            "make(0, 0, true) throws IllegalArgumentException", "make(0, 0x45, true) throws NoSuchElementException", "make(0, 0x21, true) throws UnsupportedOperationException",
            "make(0, 3, false) throws UnsupportedOperationException", "remove(0, 4) throws NoSuchElementException", "remove(0, 1) throws UnsupportedOperationException",
            "move(0, 1, 0x11) throws IllegalArgumentException", "move(0, 5, 6) throws NoSuchElementException", "move(0, 1, 0x56) throws NoSuchElementException",
            "move(0, 1, 0x21) throws UnsupportedOperationException", "move(0, 1, 3) throws UnsupportedOperationException", "write(0, 0x12, 2, 9) throws IndexOutOfBoundsException",
            "write(0, 0x12, -1, 9) throws IndexOutOfBoundsException", "write(0, 1, 0, 9) throws UnsupportedOperationException", "append(0, 1, 9) throws UnsupportedOperationException",
            "append(0, 7, 9) throws NoSuchElementException", "cut(0, 0x12, 3) throws IndexOutOfBoundsException", "cut(0, 0x12, 65) throws IllegalArgumentException",
            "cut(0, 0x12, -1) throws IllegalArgumentException", "read(0, 0x12, 2) throws IndexOutOfBoundsException", "list(0, 2) throws UnsupportedOperationException",
            "about(0, 4) throws IllegalArgumentException", "drop(1) throws IllegalStateException", "commit(6) throws IllegalStateException", "power(1001) throws IllegalArgumentException",
            "power(-2) throws IllegalArgumentException", "recover() throws IllegalStateException", "count(6) throws IllegalArgumentException", "mark(0) throws UnsupportedOperationException",
        };
        for (String call : wrong) {
            started("a call that throws changes nothing: " + call).calls("power(14)", "mark(0) = 1", "append(0, 2, 1) = 1", "mark(0) = 2", "write(0, 0x12, 0, 8) = 2", "mark(0) = 3", call,
                "about(0, 1) = 3", "about(0, 2) = 5", "about(0, 3) = 3", "count(0) = 1", "count(1) = 5", "count(2) = 6", "count(3) = 1", "count(4) = 0", "count(5) = 11",
                "list(0, 0) = 14", "list(0, 1) = 4", "list(0, 3) = 0", "read(0, 0x12, 0) = 8", "read(0, 0x12, 1) = 6", "length(0, 2) = 1", "back(0) = 2", "about(0, 1) = 3", "check(0) = 0",
                // a record block, the mark, the length, two eights, the one that clears
                "commit(0) = 2", "count(5) = 17", "read(NONE, 0x12, 0) = 8", "read(NONE, 2, 0) = 1", "begin() = 0",
                // the power goes at the fifteenth block, so within the next but one
                "make(0, 4, true)", "commit(0) = 3", "begin() = 0", "make(0, 5, true)", "commit(0) = LOST", "count(5) = 25", "recover() = 3", "count(1) = 7");
        }
    }
}
