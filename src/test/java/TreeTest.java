/** Promises 6 to 15: what is done and looked at in a view. */
public final class TreeTest {
    private static final int[] NO_PATHS = {-1, 16, 0x101, 0x110, 0x1011111, 0x10000000, 0x11111111, 0x7FFFFFFF, Integer.MIN_VALUE, 0x1111110};

    public static void main(String[] args) {
        make();
        makeSixty();
        remove();
        move();
        moveDeep();
        write();
        append();
        cut();
        read();
        length();
        kind();
        list();
        paths();
        Run.end();
    }

    private static Run started(String name) {
        // 1 a directory with a file of two words at 0x12, 2 a file without words, 3 an empty directory
        return new Run(name).calls("begin() = 0", "make(0, 1, true)", "make(0, 0x12, false)", "append(0, 0x12, 5) = 1",
            "append(0, 0x12, 6) = 2", "make(0, 2, false)", "make(0, 3, true)");
    }

    private static void make() {
        started("6 make").calls("kind(0, 1) = 1", "kind(0, 0x12) = 2", "length(0, 2) = 0", "list(0, 3) = 0",
            "make(0, 0, true) throws IllegalArgumentException", "make(0, 0x40, true) throws IllegalArgumentException",
            "make(0, 0x44, true) throws NoSuchElementException", "make(0, 0x211, true) throws NoSuchElementException",
            "make(0, 0x21, true) throws UnsupportedOperationException", "make(0, 1, true) throws UnsupportedOperationException",
            "make(0, 2, false) throws UnsupportedOperationException", "make(0, 0x12, true) throws UnsupportedOperationException",
            "about(0, 2) = 5", "commit(0) = 1", "kind(NONE, 0x12) = 2",
            "begin() = 0", "make(0, 0x31, false)", "kind(NONE, 0x31) = 0", "kind(0, 0x31) = 2");
    }

    private static void makeSixty() {
        Run run = new Run("6 a view has 60 nodes at most").calls("begin() = 0");
        for (int name = 1; name <= 4; name++) {
            run.call("make(0, " + name + ", true)");
            for (int below = 1; below <= 13; below++) {
                run.call("make(0, " + (16 * name + below) + ", " + (below % 2 == 0) + ")");
            }
        }
        run.calls("about(0, 2) = 57", "make(0, 5, false)", "make(0, 6, false)", "make(0, 7, true)", "about(0, 2) = 60",
            "make(0, 8, true) throws UnsupportedOperationException", "about(0, 2) = 60", "about(0, 0) = 8", "kind(0, 8) = 0",
            "make(0, 0x81, true) throws NoSuchElementException", "remove(0, 7) = true", "make(0, 8, true)",
            "make(0, 9, true) throws UnsupportedOperationException", "check(0) = FULL", "mark(0) = 1", "remove(0, 8) = true", "back(0) = 0",
            "about(0, 2) = 60", "kind(0, 8) = 1");
    }

    private static void remove() {
        started("7 remove").calls(
            "remove(0, 0) throws IllegalArgumentException", "remove(0, 0x10) throws IllegalArgumentException", "remove(0, 4) throws NoSuchElementException",
            "remove(0, 0x21) throws NoSuchElementException", "remove(0, 0x41) throws NoSuchElementException",
            "remove(0, 1) throws UnsupportedOperationException", "remove(0, 0x12) = false", "remove(0, 0x12) throws NoSuchElementException",
            "remove(0, 1) = true", "kind(0, 1) = 0", "remove(0, 2) = false", "remove(0, 3) = true", "about(0, 2) = 1", "list(0, 0) = 0");
        started("7 a directory's names are looked at").calls("commit(0) = 1",
            "begin() = 0", "remove(0, 2) = false", "about(0, 0) = 1", "remove(0, 3) = true", "about(0, 0) = 17",
            "remove(0, 1) throws UnsupportedOperationException", "about(0, 0) = 33",
            "commit(0) = 2", "list(NONE, 0) = 2", "count(1) = 3");
    }

    private static void move() {
        started("8 move").calls(
            "move(0, 0, 4) throws IllegalArgumentException", "move(0, 1, 0) throws IllegalArgumentException",
            "move(0, 1, 1) throws IllegalArgumentException", "move(0, 1, 0x13) throws IllegalArgumentException", "move(0, 1, 0x1234) throws IllegalArgumentException", "move(0, 1, 0x1234567) throws IllegalArgumentException",
            "move(0, 4, 0x45) throws IllegalArgumentException", "move(0, 0x10, 4) throws IllegalArgumentException", "move(0, 1, 0x40) throws IllegalArgumentException",
            "move(0, 4, 5) throws NoSuchElementException", "move(0, 1, 0x45) throws NoSuchElementException", "move(0, 1, 0x211) throws NoSuchElementException",
            "move(0, 1, 0x21) throws UnsupportedOperationException", "move(0, 1, 3) throws UnsupportedOperationException", "move(0, 0x12, 1) throws UnsupportedOperationException",
            "move(0, 1, 0x31) = true", "kind(0, 1) = 0", "kind(0, 0x31) = 1", "read(0, 0x312, 1) = 6", "about(0, 2) = 5",
            "move(0, 0x312, 0x313) = false", "list(0, 0x31) = 8", "move(0, 0x313, 5) = false", "read(0, 5, 0) = 5", "list(0, 0x31) = 0",
            "move(0, 2, 0x2F) throws IllegalArgumentException", "move(0, 2, 0xF) = false", "list(0, 0) = " + (1 << 3 | 1 << 5 | 1 << 15));
        started("8 what is looked at").calls("commit(0) = 1", "begin() = 0",
            "move(0, 0x12, 0x34) = false", "about(0, 0) = 4", "about(0, 1) = 2", "move(0, 0x34, 0x12) = false", "about(0, 0) = 4", "about(0, 1) = 0");
        started("8 the first path is looked up first").calls("commit(0) = 1", "begin() = 0",
            "move(0, 4, 0x51) throws NoSuchElementException", "about(0, 0) = 1", "kind(0, 4) = 0", "about(0, 0) = 1");
        new Run("8 two moves that would make a ring").calls("begin() = 0", "make(0, 1, true)", "make(0, 2, true)", "commit(0) = 1",
            "begin() = 0", "begin() = 1", "move(0, 1, 0x21) = true", "move(1, 2, 0x12) = true", "commit(0) = 2", "commit(1) = REFUSED", "count(1) = 3");
    }

    private static void moveDeep() {
        Run run = new Run("8 a node may get deeper than a path").calls("begin() = 0");
        int path = 0;
        for (int deep = 1; deep <= 7; deep++) {
            path = path << 4 | 1;
            run.call("make(0, " + path + ", true)");
        }
        run.calls("make(0, 0x11111111, true) throws IllegalArgumentException", "make(0, 2, true)", "make(0, 0x22, true)",
            "move(0, 1, 0x221) = true", "about(0, 2) = 10", "kind(0, 0x2211111) = 1", "list(0, 0x2211111) = 2", "commit(0) = 1", "count(1) = 10",
            "begin() = 0", "move(0, 0x221, 1) = true", "kind(0, 0x1111111) = 1", "commit(0) = 2", "count(1) = 10");
    }

    private static void write() {
        started("9 write").calls("write(0, 0x12, 0, 9) = 2", "write(0, 0x12, 1, -2147483648) = 2", "read(0, 0x12, 0) = 9", "read(0, 0x12, 1) = -2147483648",
            "write(0, 0x12, 2, 1) throws IndexOutOfBoundsException", "write(0, 0x12, -1, 1) throws IndexOutOfBoundsException",
            "write(0, 0x12, 2147483647, 1) throws IndexOutOfBoundsException", "write(0, 2, 0, 1) throws IndexOutOfBoundsException",
            "write(0, 1, 0, 1) throws UnsupportedOperationException", "write(0, 0, 0, 1) throws UnsupportedOperationException",
            "write(0, 0x121, 0, 1) throws NoSuchElementException", "write(0, 4, 0, 1) throws NoSuchElementException",
            "write(0, 0x20, 0, 1) throws IllegalArgumentException", "write(NONE, 0x12, 0, 1) throws IllegalStateException",
            "commit(0) = 1", "read(NONE, 0x12, 0) = 9",
            "begin() = 0", "write(0, 0x12, 0, 1) = 2", "about(0, 0) = 3", "write(0, 0x12, 7, 1) throws IndexOutOfBoundsException", "about(0, 0) = 3", "read(NONE, 0x12, 0) = 9");
    }

    private static void append() {
        Run run = started("10 append");
        for (int n = 1; n <= 64; n++) {
            run.call("append(0, 2, " + -n + ") = " + n);
        }
        run.calls("append(0, 2, 1) throws UnsupportedOperationException", "length(0, 2) = 64", "read(0, 2, 63) = -64", "read(0, 2, 64) throws IndexOutOfBoundsException",
            "append(0, 1, 1) throws UnsupportedOperationException", "append(0, 0, 1) throws UnsupportedOperationException", "append(0, 5, 1) throws NoSuchElementException",
            "append(0, 0x21, 1) throws NoSuchElementException", "append(0, -5, 1) throws IllegalArgumentException", "append(NONE, 2, 1) throws IllegalStateException",
            "cut(0, 2, 63) = 1", "append(0, 2, 7) = 64", "commit(0) = 1",
            "begin() = 0", "append(0, 2, 1) throws UnsupportedOperationException", "about(0, 0) = 2", "append(0, 0x12, 0) = 3", "about(0, 0) = 5", "about(0, 1) = 1", "length(NONE, 0x12) = 2");
    }

    private static void cut() {
        started("11 cut").calls("cut(0, 0x12, 3) throws IndexOutOfBoundsException", "cut(0, 0x12, 64) throws IndexOutOfBoundsException",
            "cut(0, 0x12, 65) throws IllegalArgumentException", "cut(0, 0x12, -1) throws IllegalArgumentException", "cut(0, 4, 65) throws IllegalArgumentException",
            "cut(0, 0x40, 1) throws IllegalArgumentException", "cut(0, 4, 1) throws NoSuchElementException", "cut(0, 1, 0) throws UnsupportedOperationException",
            "cut(0, 0x12, 2) = 0", "cut(0, 0x12, 1) = 1", "length(0, 0x12) = 1", "read(0, 0x12, 0) = 5", "read(0, 0x12, 1) throws IndexOutOfBoundsException",
            "append(0, 0x12, 0) = 2", "read(0, 0x12, 1) = 0", "cut(0, 0x12, 0) = 2", "cut(0, 0x12, 0) = 0", "cut(NONE, 0x12, 0) throws IllegalStateException",
            "commit(0) = 1", "length(NONE, 0x12) = 0", "begin() = 0", "cut(0, 0x12, 0) = 0", "about(0, 0) = 3", "about(0, 1) = 0",
            "cut(0, 2, 1) throws IndexOutOfBoundsException", "about(0, 0) = 5");
    }

    private static void read() {
        started("12 read").calls("read(0, 0x12, 0) = 5", "read(0, 0x12, 1) = 6", "read(0, 0x12, 2) throws IndexOutOfBoundsException", "read(0, 0x12, -1) throws IndexOutOfBoundsException",
            "read(0, 2, 0) throws IndexOutOfBoundsException", "read(0, 3, 0) throws UnsupportedOperationException", "read(0, 0, -1) throws UnsupportedOperationException",
            "read(0, 4, -1) throws NoSuchElementException", "read(0, 0x30, -1) throws IllegalArgumentException", "read(NONE, 0x12, 0) throws NoSuchElementException",
            "commit(0) = 1", "read(NONE, 0x12, 1) = 6", "read(NONE, 0x12, 2) throws IndexOutOfBoundsException", "read(NONE, 1, 0) throws UnsupportedOperationException",
            "begin() = 0", "read(0, 0x12, 9) throws IndexOutOfBoundsException", "about(0, 0) = 3", "read(0, 0x12, 1) = 6", "about(0, 0) = 4");
    }

    private static void length() {
        started("13 length").calls("length(0, 0x12) = 2", "length(0, 2) = 0", "length(0, 1) throws UnsupportedOperationException", "length(0, 0) throws UnsupportedOperationException",
            "length(0, 4) throws NoSuchElementException", "length(0, 0x22) throws NoSuchElementException", "length(0, 0x22222222) throws IllegalArgumentException",
            "length(NONE, 2) throws NoSuchElementException", "commit(0) = 1", "length(NONE, 0x12) = 2", "length(NONE, 1) throws UnsupportedOperationException",
            "begin() = 0", "length(0, 1) throws UnsupportedOperationException", "about(0, 0) = 1", "length(0, 2) = 0", "about(0, 0) = 3");
    }

    private static void kind() {
        started("14 kind").calls("kind(0, 0) = 1", "kind(0, 1) = 1", "kind(0, 2) = 2", "kind(0, 4) = 0", "kind(0, 0x12) = 2", "kind(0, 0x121) = 0", "kind(0, 0x4567) = 0",
            "kind(0, 0xFFFFFFF) = 0", "kind(0, 0x10000000) throws IllegalArgumentException", "kind(0, 0x10) throws IllegalArgumentException", "kind(0, -1) throws IllegalArgumentException",
            "kind(NONE, 1) = 0", "kind(NONE, 0) = 1", "kind(NONE, 0x20) throws IllegalArgumentException", "kind(-2, 0) throws IllegalStateException", "commit(0) = 1", "kind(NONE, 1) = 1");
    }

    private static void list() {
        started("15 list").calls("list(0, 0) = 14", "list(0, 1) = 4", "list(0, 3) = 0", "list(0, 2) throws UnsupportedOperationException", "list(0, 0x12) throws UnsupportedOperationException",
            "list(0, 4) throws NoSuchElementException", "list(0, 0x21) throws NoSuchElementException", "list(0, 0x100) throws IllegalArgumentException",
            "make(0, 15, true)", "list(0, 0) = 32782", "list(NONE, 0) = 0", "commit(0) = 1", "list(NONE, 0) = 32782",
            "begin() = 0", "list(0, 2) throws UnsupportedOperationException", "about(0, 0) = 1", "list(0, 1) = 4", "about(0, 0) = 17");
    }

    private static void paths() {
        Run run = started("what is no path");
        for (int path : NO_PATHS) {
            run.calls("make(0, " + path + ", true) throws IllegalArgumentException", "remove(0, " + path + ") throws IllegalArgumentException",
                "move(0, " + path + ", 5) throws IllegalArgumentException", "move(0, 1, " + path + ") throws IllegalArgumentException",
                "write(0, " + path + ", 0, 0) throws IllegalArgumentException", "append(0, " + path + ", 0) throws IllegalArgumentException",
                "cut(0, " + path + ", 0) throws IllegalArgumentException", "read(0, " + path + ", 0) throws IllegalArgumentException",
                "length(0, " + path + ") throws IllegalArgumentException", "kind(0, " + path + ") throws IllegalArgumentException",
                "list(0, " + path + ") throws IllegalArgumentException", "kind(NONE, " + path + ") throws IllegalArgumentException");
        }
        run.call("about(0, 2) = 5");
    }
}
