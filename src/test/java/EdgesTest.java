/** Each sentence of the promises that names a boundary, one test each, in the document's order; a run's name has its promise and its words. */
public final class EdgesTest {
    private static final int LEAST = Integer.MIN_VALUE, GREATEST = Integer.MAX_VALUE;

    public static void main(String[] args) {
        newObject();
        begin();
        drop();
        commit();
        commitGoesOnWhenFull();
        check();
        make();
        makeSixty();
        remove();
        move();
        write();
        append();
        cut();
        read();
        length();
        kind();
        list();
        mark();
        back();
        about();
        power();
        powerThousand();
        recover();
        count();
        countWhileDown();
        Run.end();
    }

    private static Run started(String name) {
        // 1 a directory with a file of two words at 0x12, 2 a file without words, 3 an empty directory; 11 blocks are written
        return new Run(name).calls("begin() = 0", "make(0, 1, true)", "make(0, 0x12, false)", "append(0, 0x12, 5) = 1",
            "append(0, 0x12, 6) = 2", "make(0, 2, false)", "make(0, 3, true)", "commit(0) = 1", "begin() = 0");
    }

    /** All is DOWN, with a commit behind its mark; transactions 0 and 1 were there. */
    private static Run fallen(String name) {
        return started(name).calls("begin() = 1", "make(0, 4, true)", "power(2)", "commit(0) = LOST", "count(4) = 1");
    }

    private static void newObject() {
        new Run("1 a tree of the root alone").calls("count(1) = 1", "count(2) = 1", "kind(NONE, 0) = 1", "list(NONE, 0) = 0", "kind(NONE, 1) = 0", "kind(NONE, 15) = 0");
        new Run("1 no transaction").calls("count(3) = 0", "drop(0) throws IllegalStateException", "drop(5) throws IllegalStateException", "begin() = 0", "about(0, 0) = 0", "about(0, 1) = 0", "about(0, 2) = 1", "about(0, 3) = 0");
        new Run("1 the power stays").calls("count(4) = 0", "count(5) = 0", "count(0) = 0", "begin() = 0", "make(0, 1, true)", "commit(0) = 1", "count(5) = 5", "count(4) = 0");
        new Run("1 objects are apart").calls("begin() = 0", "make(0, 1, true)", "commit(0) = 1");
        new Run("1 objects are apart: another one").calls("kind(NONE, 1) = 0", "count(0) = 0", "begin() = 0");
    }

    private static void begin() {
        Run least = new Run("2 its number, the least that is free");
        for (int t = 0; t <= 5; t++) {
            least.call("begin() = " + t);
        }
        least.calls("drop(5) = 0", "drop(0) = 0", "begin() = 0", "begin() = 5", "commit(2) = 1", "drop(1) = 0", "begin() = 1", "begin() = 2");
        Run six = new Run("2 UnsupportedOperationException: there are six");
        for (int t = 0; t <= 5; t++) {
            six.calls("begin() = " + t, "count(3) = " + (t + 1));
        }
        six.calls("begin() throws UnsupportedOperationException", "begin() throws UnsupportedOperationException", "count(3) = 6", "drop(4) = 0", "begin() = 4", "begin() throws UnsupportedOperationException");
        fallen("2 IllegalStateException: all is DOWN").calls("begin() throws IllegalStateException", "count(3) = 0", "recover() = 3", "begin() = 0", "count(3) = 1");
        Run both = new Run("2 IllegalStateException, though there were six");
        for (int t = 0; t <= 5; t++) {
            both.call("begin() = " + t);
        }
        both.calls("make(5, 1, true)", "power(0)", "commit(5) = LOST", "begin() throws IllegalStateException", "recover() = 0", "begin() = 0");
    }

    private static void drop() {
        started("3 it is over, nothing of it stays").calls("make(0, 4, true)", "append(0, 2, 1) = 1", "mark(0) = 1", "drop(0) = 3", "count(3) = 0", "count(0) = 1", "count(1) = 5", "count(5) = 11",
            "kind(NONE, 4) = 0", "length(NONE, 2) = 0", "drop(0) throws IllegalStateException", "begin() = 0", "kind(0, 4) = 0", "length(0, 2) = 0", "about(0, 3) = 0", "about(0, 1) = 0");
        started("3 how many items it had READ: none").call("drop(0) = 0");
        started("3 how many items it had READ: each once").calls("list(0, 1) = 4", "list(0, 1) = 4", "kind(0, 1) = 1", "drop(0) = 16");
        started("3 how many items it had READ: nothing of the one before").calls("list(0, 0) = 14", "drop(0) = 15", "begin() = 0", "drop(0) = 0");
        for (int t : new int[] {1, 5, 6, -1, -2, GREATEST, LEAST}) {
            started("3 IllegalStateException").calls("drop(" + t + ") throws IllegalStateException", "count(3) = 1");
        }
        fallen("3 IllegalStateException: all is DOWN").calls("drop(0) throws IllegalStateException", "drop(1) throws IllegalStateException");
    }

    private static void commit() {
        started("4 how many were committed by now, with this one").calls("commit(0) = 2", "begin() = 0", "begin() = 1", "make(0, 4, true)", "make(1, 4, true)", "commit(1) = 3", "commit(0) = REFUSED",
            "begin() = 0", "drop(0) = 0", "begin() = 0", "commit(0) = 4", "count(0) = 4");
        started("4 REFUSED: it is over").calls("kind(0, 4) = 0", "begin() = 1", "make(1, 4, true)", "commit(1) = 2", "make(0, 5, true)", "commit(0) = REFUSED", "count(3) = 0", "commit(0) throws IllegalStateException",
            "drop(0) throws IllegalStateException", "kind(NONE, 5) = 0", "begin() = 0", "about(0, 0) = 0", "commit(0) = 3");
        started("4 LOST: it is over").calls("make(0, 4, true)", "power(0)", "commit(0) = LOST", "commit(0) throws IllegalStateException", "recover() = 0", "commit(0) throws IllegalStateException", "count(3) = 0", "count(0) = 1");
        started("4 REFUSED though the power would go: nothing is written").calls("make(0, 4, true)", "begin() = 1", "make(1, 4, true)", "commit(1) = 2", "power(0)", "commit(0) = REFUSED", "count(5) = 16", "count(4) = 0");
        for (int t : new int[] {1, 5, 6, -1, -2, GREATEST, LEAST}) {
            started("4 IllegalStateException").calls("commit(" + t + ") throws IllegalStateException", "count(0) = 1", "count(3) = 1");
        }
        fallen("4 IllegalStateException: all is DOWN").calls("commit(0) throws IllegalStateException", "commit(1) throws IllegalStateException", "count(0) = 2");
    }

    private static Run full(String name) {
        Run run = new Run(name).calls("begin() = 0", "make(0, 1, true)", "make(0, 2, true)", "make(0, 3, true)");
        for (int n = 0; n < 36; n++) {
            run.call("make(0, " + (0x11 + n / 12 * 16 + n % 12) + ", true)");
        }
        return run.calls("commit(0) = 1", "count(1) = 40", "begin() = 0", "begin() = 1", "make(0, 4, true)");
    }

    private static void commitGoesOnWhenFull() {
        full("4 FULL: it goes on").calls("mark(0) = 1", "commit(0) = FULL", "commit(0) = FULL", "count(3) = 2", "count(0) = 1", "about(0, 0) = 1", "about(0, 1) = 2", "about(0, 2) = 41", "about(0, 3) = 1",
            "remove(0, 0x11) = true", "commit(0) = 2", "kind(NONE, 4) = 1");
        full("4 FULL though the power would go: nothing is written").calls("count(5) = 62", "power(0)", "commit(0) = FULL", "count(5) = 62", "count(4) = 0");
        full("4 it is REFUSED, else FULL").calls("remove(1, 3) throws UnsupportedOperationException", "kind(0, 0x11) = 1", "make(0, 5, true)", "check(0) = FULL", "remove(1, 0x11) = true", "commit(1) = 2",
            // 39 nodes and two more would be too many, but what it looked at is no more so
            "check(0) = REFUSED", "commit(0) = REFUSED", "count(3) = 0");
        full("4 FULL is of the tree as it is then").calls("commit(0) = FULL", "remove(1, 0x11) = true", "commit(1) = 2", "check(0) = 0", "commit(0) = 3", "count(1) = 40");
    }

    private static void check() {
        started("5 what commit() would answer now: 0").calls("check(0) = 0", "make(0, 4, true)", "check(0) = 0", "check(0) = 0", "count(3) = 1", "count(0) = 1", "count(5) = 11", "kind(NONE, 4) = 0", "commit(0) = 2");
        started("5 the power apart").calls("make(0, 4, true)", "power(0)", "check(0) = 0", "check(0) = 0", "count(4) = 0", "count(5) = 11", "commit(0) = LOST");
        started("5 REFUSED, and it goes on").calls("make(0, 4, true)", "begin() = 1", "make(1, 4, true)", "commit(1) = 2", "check(0) = REFUSED", "check(0) = REFUSED", "count(3) = 1", "about(0, 0) = 1", "drop(0) = 1");
        full("5 FULL").calls("check(0) = FULL", "check(0) = FULL", "check(1) = 0", "remove(0, 4) = true", "check(0) = 0");
        for (int t : new int[] {1, 5, 6, -1, -2, GREATEST, LEAST}) {
            started("5 IllegalStateException").calls("check(" + t + ") throws IllegalStateException");
        }
        fallen("5 IllegalStateException: all is DOWN").calls("check(0) throws IllegalStateException", "check(1) throws IllegalStateException");
    }

    private static void make() {
        started("6 a directory or file without entries, words").calls("make(0, 4, true)", "kind(0, 4) = 1", "list(0, 4) = 0", "make(0, 5, false)", "kind(0, 5) = 2", "length(0, 5) = 0", "kind(NONE, 4) = 0");
        started("6 IllegalArgumentException: also the root's path").calls("make(0, 0, true) throws IllegalArgumentException", "make(0, 0, false) throws IllegalArgumentException", "make(0, 0x40, true) throws IllegalArgumentException",
            "make(0, 0x10000000, true) throws IllegalArgumentException", "make(0, -1, true) throws IllegalArgumentException", "about(0, 2) = 5", "about(0, 0) = 0");
        started("6 NoSuchElementException: there is nothing at the path without its last name").calls("make(0, 0x44, true) throws NoSuchElementException", "make(0, 0x111, true) throws NoSuchElementException",
            "make(0, 0x211, true) throws NoSuchElementException", "make(0, 0x1211, true) throws NoSuchElementException", "about(0, 2) = 5");
        started("6 UnsupportedOperationException: that is a file").calls("make(0, 0x21, true) throws UnsupportedOperationException", "make(0, 0x12F, false) throws UnsupportedOperationException", "about(0, 2) = 5");
        started("6 UnsupportedOperationException: there is something at the path").calls("make(0, 1, true) throws UnsupportedOperationException", "make(0, 2, true) throws UnsupportedOperationException",
            "make(0, 2, false) throws UnsupportedOperationException", "make(0, 0x12, false) throws UnsupportedOperationException", "about(0, 2) = 5", "list(0, 1) = 4", "read(0, 0x12, 0) = 5");
        started("6 IllegalStateException").calls("make(1, 4, true) throws IllegalStateException", "make(NONE, 4, true) throws IllegalStateException", "make(6, 0, true) throws IllegalStateException", "kind(NONE, 4) = 0");
    }

    private static void makeSixty() {
        Run run = new Run("6 UnsupportedOperationException: the view has 60 nodes").call("begin() = 0");
        for (int name = 1; name <= 5; name++) {
            run.call("make(0, " + name + ", true)");
        }
        for (int n = 0; n < 53; n++) {
            run.call("make(0, " + (0x11 + n / 15 * 16 + n % 15) + ", " + (n % 3 == 0) + ")");
        }
        run.calls("about(0, 2) = 59", "make(0, 6, false)", "about(0, 2) = 60", "make(0, 7, true) throws UnsupportedOperationException", "about(0, 2) = 60", "about(0, 0) = 7", "kind(0, 7) = 0",
            // what is named before it is thrown before it
            "make(0, 0, true) throws IllegalArgumentException", "make(0, 0x71, true) throws NoSuchElementException", "move(0, 6, 7) = false", "remove(0, 7) = false", "make(0, 7, true)", "about(0, 2) = 60",
            // the tree's own limit is a lower one
            "check(0) = FULL", "drop(0) = 7");
    }

    private static void remove() {
        started("7 a node goes out of the view: whether it was a directory").calls("remove(0, 3) = true", "remove(0, 2) = false", "remove(0, 0x12) = false", "remove(0, 1) = true", "about(0, 2) = 1", "list(0, 0) = 0", "count(1) = 5");
        started("7 IllegalArgumentException: also the root's path").calls("remove(0, 0) throws IllegalArgumentException", "remove(0, 16) throws IllegalArgumentException", "remove(0, -1) throws IllegalArgumentException",
            "remove(0, 0x11111111) throws IllegalArgumentException", "about(0, 0) = 0");
        new Run("7 IllegalArgumentException: the root, also when it is empty").calls("begin() = 0", "remove(0, 0) throws IllegalArgumentException");
        started("7 NoSuchElementException").calls("remove(0, 4) throws NoSuchElementException", "remove(0, 0x21) throws NoSuchElementException", "remove(0, 0x31) throws NoSuchElementException", "remove(0, 0x45) throws NoSuchElementException",
            "remove(0, 3) = true", "remove(0, 3) throws NoSuchElementException");
        started("7 UnsupportedOperationException: it is a directory that is not empty").calls("remove(0, 1) throws UnsupportedOperationException", "kind(0, 0x12) = 2", "make(0, 0x3F, false)",
            "remove(0, 3) throws UnsupportedOperationException", "remove(0, 0x3F) = false", "remove(0, 3) = true");
        started("7 a file with words goes").calls("remove(0, 0x12) = false", "commit(0) = 2", "count(1) = 4", "count(2) = 4");
        started("7 HAS of all names is looked at: of those that are as in the base").calls("remove(0, 0x12) = false", "about(0, 0) = 2", "remove(0, 1) = true", "about(0, 0) = 16");
        started("7 IllegalStateException").calls("remove(1, 3) throws IllegalStateException", "remove(NONE, 3) throws IllegalStateException", "remove(6, 0) throws IllegalStateException", "kind(NONE, 3) = 1");
    }

    private static void move() {
        started("8 a node with all that is in it").calls("move(0, 1, 0x31) = true", "read(0, 0x312, 1) = 6", "kind(0, 1) = 0", "kind(0, 0x12) = 0", "move(0, 0x312, 1) = false", "read(0, 1, 0) = 5", "list(0, 0x31) = 0", "about(0, 2) = 5");
        started("8 IllegalArgumentException: also one of them is the root's").calls("move(0, 0, 4) throws IllegalArgumentException", "move(0, 4, 0) throws IllegalArgumentException", "move(0, 1, 0) throws IllegalArgumentException",
            "move(0, 0, 0) throws IllegalArgumentException", "move(0, 16, 4) throws IllegalArgumentException", "move(0, 1, 0x40) throws IllegalArgumentException", "move(0, -1, 4) throws IllegalArgumentException",
            "move(0, 1, 0x41111111) throws IllegalArgumentException", "about(0, 0) = 0");
        started("8 IllegalArgumentException: the second is the first").calls("move(0, 1, 1) throws IllegalArgumentException", "move(0, 4, 4) throws IllegalArgumentException", "move(0, 0x12, 0x12) throws IllegalArgumentException", "about(0, 0) = 0");
        started("8 IllegalArgumentException: or goes through it").calls("move(0, 1, 0x11) throws IllegalArgumentException", "move(0, 3, 0x31) throws IllegalArgumentException", "move(0, 2, 0x21) throws IllegalArgumentException",
            "move(0, 1, 0x1234567) throws IllegalArgumentException", "move(0, 4, 0x45) throws IllegalArgumentException", "move(0, 0x12, 0x123) throws IllegalArgumentException", "about(0, 0) = 0",
            // a path whose digits only end so, or that the first one goes through
            "move(0, 3, 0x13) = true", "move(0, 0x13, 0x3) = true", "move(0, 0x12, 1) throws UnsupportedOperationException", "move(0, 0x12, 0x3) throws UnsupportedOperationException");
        started("8 NoSuchElementException: there is nothing at the first one").calls("move(0, 4, 5) throws NoSuchElementException", "move(0, 4, 0x21) throws NoSuchElementException", "move(0, 4, 1) throws NoSuchElementException",
            "move(0, 0x21, 5) throws NoSuchElementException", "about(0, 0) = 2");
        started("8 NoSuchElementException: or at the second one without its last name").calls("move(0, 1, 0x45) throws NoSuchElementException", "move(0, 1, 0x211) throws NoSuchElementException", "kind(0, 0x12) = 2");
        started("8 looked up in this order").calls("move(0, 4, 0x51) throws NoSuchElementException", "about(0, 0) = 1", "move(0, 2, 0x51) throws NoSuchElementException", "about(0, 0) = 3",
            "begin() = 1", "make(1, 5, true)", "commit(1) = 2", "commit(0) = REFUSED");
        started("8 looked up in this order: the second one is not, if the first is nothing").calls("move(0, 4, 0x51) throws NoSuchElementException", "begin() = 1", "make(1, 5, true)", "commit(1) = 2", "commit(0) = 3");
        started("8 UnsupportedOperationException: that is a file").calls("move(0, 1, 0x21) throws UnsupportedOperationException", "move(0, 3, 0x121) throws UnsupportedOperationException", "kind(0, 1) = 1", "kind(0, 3) = 1");
        started("8 UnsupportedOperationException: there is something at the second one").calls("move(0, 1, 3) throws UnsupportedOperationException", "move(0, 2, 3) throws UnsupportedOperationException",
            "move(0, 3, 2) throws UnsupportedOperationException", "move(0, 3, 0x12) throws UnsupportedOperationException", "list(0, 0) = 14");
        started("8 IllegalStateException").calls("move(1, 1, 4) throws IllegalStateException", "move(NONE, 1, 4) throws IllegalStateException", "move(6, 0, 0) throws IllegalStateException");
    }

    private static void write() {
        started("9 a word of a file is set: the file's length").calls("write(0, 0x12, 0, " + GREATEST + ") = 2", "read(0, 0x12, 0) = " + GREATEST, "write(0, 0x12, 0, " + LEAST + ") = 2", "read(0, 0x12, 0) = " + LEAST,
            "write(0, 0x12, 1, 0) = 2", "read(0, 0x12, 1) = 0", "length(0, 0x12) = 2", "commit(0) = 2", "read(NONE, 0x12, 0) = " + LEAST);
        started("9 it is looked at; the word is not").calls("write(0, 0x12, 0, 9) = 2", "about(0, 0) = 3", "begin() = 1", "write(1, 0x12, 0, 8) = 2", "commit(1) = 2", "commit(0) = 3", "read(NONE, 0x12, 0) = 9");
        started("9 IndexOutOfBoundsException: it has no such word").calls("write(0, 0x12, 2, 1) throws IndexOutOfBoundsException", "write(0, 0x12, -1, 1) throws IndexOutOfBoundsException", "write(0, 0x12, 63, 1) throws IndexOutOfBoundsException",
            "write(0, 0x12, 64, 1) throws IndexOutOfBoundsException", "write(0, 0x12, " + GREATEST + ", 1) throws IndexOutOfBoundsException", "write(0, 0x12, " + LEAST + ", 1) throws IndexOutOfBoundsException",
            "write(0, 2, 0, 1) throws IndexOutOfBoundsException", "about(0, 1) = 0");
        order("9 ", "write", ", -1, 7", ", 64, 7");
    }

    /** What is named first is thrown first: each argument behind the path is wrong, too. */
    private static void order(String promise, String method, String... rests) {
        for (String rest : rests) {
            started(promise + method + ": the one named first").calls(
                method + "(1, 16" + rest + ") throws IllegalStateException", method + "(6, 4" + rest + ") throws IllegalStateException", method + "(-2, 1" + rest + ") throws IllegalStateException",
                method + "(0, 16" + rest + ") throws IllegalArgumentException", method + "(0, 0x10000000" + rest + ") throws IllegalArgumentException", method + "(0, -1" + rest + ") throws IllegalArgumentException",
                method + "(0, 4" + rest + ") throws NoSuchElementException", method + "(0, 0x21" + rest + ") throws NoSuchElementException", method + "(0, 0x121" + rest + ") throws NoSuchElementException",
                method + "(0, 1" + rest + ") throws UnsupportedOperationException", method + "(0, 0" + rest + ") throws UnsupportedOperationException", method + "(0, 3" + rest + ") throws UnsupportedOperationException");
        }
    }

    private static void append() {
        started("10 a word comes behind a file's others: its length now").calls("append(0, 2, " + LEAST + ") = 1", "append(0, 2, 0) = 2", "append(0, 0x12, 7) = 3", "read(0, 2, 0) = " + LEAST, "read(0, 2, 1) = 0", "read(0, 0x12, 2) = 7", "read(0, 0x12, 1) = 6");
        started("10 it is looked at").calls("append(0, 2, 7) = 1", "about(0, 0) = 2", "begin() = 1", "append(1, 2, 7) = 1", "commit(1) = 2", "commit(0) = REFUSED");
        Run run = started("10 UnsupportedOperationException: it has 64 words");
        for (int n = 1; n <= 64; n++) {
            run.call("append(0, 2, " + n + ") = " + n);
        }
        run.calls("append(0, 2, 65) throws UnsupportedOperationException", "length(0, 2) = 64", "read(0, 2, 63) = 64", "about(0, 1) = 65", "commit(0) = 2", "begin() = 0",
            "append(0, 2, 65) throws UnsupportedOperationException", "about(0, 0) = 2", "begin() = 1", "cut(1, 2, 63) = 1", "commit(1) = 3", "commit(0) = REFUSED", "begin() = 0", "append(0, 2, 9) = 64");
        order("10 ", "append", ", 7");
        started("10 IllegalStateException").calls("append(NONE, 2, 7) throws IllegalStateException", "length(NONE, 2) = 0");
    }

    private static void cut() {
        started("11 a file keeps its first n words: how many go").calls("cut(0, 0x12, 2) = 0", "cut(0, 0x12, 1) = 1", "read(0, 0x12, 0) = 5", "read(0, 0x12, 1) throws IndexOutOfBoundsException", "cut(0, 0x12, 0) = 1", "cut(0, 0x12, 0) = 0",
            "length(0, 0x12) = 0", "cut(0, 2, 0) = 0");
        started("11 its length is looked at").calls("cut(0, 2, 0) = 0", "about(0, 0) = 2", "begin() = 1", "append(1, 2, 7) = 1", "commit(1) = 2", "commit(0) = REFUSED");
        started("11 IllegalArgumentException: also n is not 0 .. 64").calls("cut(0, 0x12, -1) throws IllegalArgumentException", "cut(0, 0x12, 65) throws IllegalArgumentException", "cut(0, 0x12, " + LEAST + ") throws IllegalArgumentException",
            "cut(0, 0x12, " + GREATEST + ") throws IllegalArgumentException", "cut(0, 4, 65) throws IllegalArgumentException", "cut(0, 1, -1) throws IllegalArgumentException", "cut(0, 0, 65) throws IllegalArgumentException", "about(0, 0) = 0",
            "cut(1, 2, 65) throws IllegalStateException");
        started("11 IndexOutOfBoundsException: it has fewer").calls("cut(0, 0x12, 3) throws IndexOutOfBoundsException", "cut(0, 0x12, 64) throws IndexOutOfBoundsException", "cut(0, 2, 1) throws IndexOutOfBoundsException", "length(0, 0x12) = 2");
        Run run = started("11 a whole file");
        for (int n = 1; n <= 64; n++) {
            run.call("append(0, 2, " + n + ") = " + n);
        }
        run.calls("cut(0, 2, 64) = 0", "cut(0, 2, 63) = 1", "cut(0, 2, 64) throws IndexOutOfBoundsException", "cut(0, 2, 0) = 63", "about(0, 1) = 0");
        order("11 ", "cut", ", 0", ", 64");
        started("11 IllegalStateException").calls("cut(NONE, 0x12, 0) throws IllegalStateException", "length(NONE, 0x12) = 2");
    }

    private static void read() {
        started("12 a word of a file").calls("read(0, 0x12, 0) = 5", "read(0, 0x12, 1) = 6", "read(NONE, 0x12, 1) = 6");
        started("12 its length is looked at, then the word").calls("read(0, 0x12, 0) = 5", "about(0, 0) = 4", "read(0, 0x12, 1) = 6", "about(0, 0) = 5");
        started("12 IndexOutOfBoundsException: it has no such word").calls("read(0, 0x12, 2) throws IndexOutOfBoundsException", "read(0, 0x12, -1) throws IndexOutOfBoundsException", "read(0, 0x12, 64) throws IndexOutOfBoundsException",
            "read(0, 0x12, " + LEAST + ") throws IndexOutOfBoundsException", "read(0, 0x12, " + GREATEST + ") throws IndexOutOfBoundsException", "read(0, 2, 0) throws IndexOutOfBoundsException", "about(0, 0) = 5",
            "read(NONE, 0x12, 2) throws IndexOutOfBoundsException", "read(NONE, 0x12, -1) throws IndexOutOfBoundsException");
        order("12 ", "read", ", -1", ", 64");
        ofTheTree("12 ", "read", ", 64");
    }

    /** The same of the tree itself. */
    private static void ofTheTree(String promise, String method, String rest) {
        started(promise + method + " of the tree itself").calls(method + "(NONE, 16" + rest + ") throws IllegalArgumentException", method + "(NONE, -1" + rest + ") throws IllegalArgumentException",
            method + "(NONE, 4" + rest + ") throws NoSuchElementException", method + "(NONE, 0x21" + rest + ") throws NoSuchElementException", "drop(0) = 0");
        fallen(promise + method + " while all is DOWN").calls(method + "(NONE, 16" + rest + ") throws IllegalStateException", method + "(NONE, 0x12" + rest + ") throws IllegalStateException",
            method + "(0, 0x12" + rest + ") throws IllegalStateException", method + "(-2, 0x12" + rest + ") throws IllegalStateException");
    }

    private static void length() {
        started("13 a file's length").calls("length(0, 0x12) = 2", "length(0, 2) = 0", "length(NONE, 0x12) = 2", "append(0, 2, 0) = 1", "length(0, 2) = 1", "length(NONE, 2) = 0");
        started("13 it is looked at").calls("length(0, 2) = 0", "about(0, 0) = 2", "begin() = 1", "append(1, 2, 0) = 1", "commit(1) = 2", "check(0) = REFUSED");
        order("13 ", "length", "");
        ofTheTree("13 ", "length", "");
    }

    private static void kind() {
        started("14 0 nothing, 1 a directory, 2 a file").calls("kind(0, 0) = 1", "kind(0, 1) = 1", "kind(0, 0x12) = 2", "kind(0, 4) = 0", "kind(0, 0x121) = 0", "kind(0, 0x4444444) = 0", "kind(NONE, 3) = 1", "kind(NONE, 2) = 2", "kind(NONE, 0xFFFFFFF) = 0");
        started("14 IllegalArgumentException").calls("kind(0, 16) throws IllegalArgumentException", "kind(0, 0x44444444) throws IllegalArgumentException", "kind(NONE, -1) throws IllegalArgumentException", "kind(1, 16) throws IllegalStateException", "drop(0) = 0");
        fallen("14 IllegalStateException: all is DOWN").calls("kind(NONE, 0) throws IllegalStateException", "kind(NONE, 16) throws IllegalStateException", "kind(1, 0) throws IllegalStateException");
    }

    private static void list() {
        started("15 the names that a directory has, as bits 1 .. 15").calls("list(0, 0) = 14", "list(0, 1) = 4", "list(0, 3) = 0", "make(0, 15, false)", "list(0, 0) = 32782", "make(0, 0x3F, false)", "make(0, 0x31, true)", "list(0, 3) = 32770",
            "list(NONE, 0) = 14", "list(NONE, 3) = 0");
        started("15 HAS of all names is looked at").calls("list(0, 3) = 0", "about(0, 0) = 16", "begin() = 1", "make(1, 0x3F, true)", "commit(1) = 2", "commit(0) = REFUSED");
        started("15 UnsupportedOperationException: it is a file").calls("list(0, 2) throws UnsupportedOperationException", "list(0, 0x12) throws UnsupportedOperationException", "list(NONE, 2) throws UnsupportedOperationException",
            "list(0, 4) throws NoSuchElementException", "list(0, 0x21) throws NoSuchElementException", "list(0, 0x20) throws IllegalArgumentException", "list(1, 0x20) throws IllegalStateException");
        ofTheTree("15 ", "list", "");
    }

    private static void mark() {
        started("16 a mark more: how many").calls("mark(0) = 1", "mark(0) = 2", "mark(0) = 3");
        started("16 UnsupportedOperationException: there are three").calls("mark(0) = 1", "mark(0) = 2", "append(0, 2, 1) = 1", "mark(0) = 3", "append(0, 2, 2) = 2", "mark(0) throws UnsupportedOperationException", "about(0, 3) = 3",
            // the third one is still that of before
            "back(0) = 2", "length(0, 2) = 1", "mark(0) = 3", "back(0) = 2", "back(0) = 1", "length(0, 2) = 0");
        for (int t : new int[] {1, 5, 6, -1, -2, GREATEST, LEAST}) {
            started("16 IllegalStateException").calls("mark(" + t + ") throws IllegalStateException", "back(" + t + ") throws IllegalStateException", "about(0, 3) = 0");
        }
        fallen("16 IllegalStateException: all is DOWN").calls("mark(0) throws IllegalStateException", "mark(1) throws IllegalStateException", "back(1) throws IllegalStateException", "recover() = 3", "begin() = 0", "about(0, 3) = 0");
    }

    private static void back() {
        started("17 back to the latest mark, which goes: how many are left").calls("mark(0) = 1", "remove(0, 2) = false", "mark(0) = 2", "make(0, 2, true)", "mark(0) = 3", "make(0, 0x21, false)", "back(0) = 2", "list(0, 2) = 0",
            "back(0) = 1", "kind(0, 2) = 0", "back(0) = 0", "kind(0, 2) = 2", "about(0, 2) = 5");
        started("17 UnsupportedOperationException: there is none").calls("back(0) throws UnsupportedOperationException", "mark(0) = 1", "back(0) = 0", "append(0, 2, 1) = 1", "back(0) throws UnsupportedOperationException", "length(0, 2) = 1", "about(0, 3) = 0");
        started("17 marks of one are none of another").calls("begin() = 1", "mark(0) = 1", "back(1) throws UnsupportedOperationException", "about(0, 3) = 1", "drop(0) = 0", "begin() = 0", "back(0) throws UnsupportedOperationException");
        started("17 marks stay when it is FULL or checked, and go with a commit").calls("mark(0) = 1", "make(0, 4, true)", "check(0) = 0", "about(0, 3) = 1", "commit(0) = 2", "kind(NONE, 4) = 1", "begin() = 0", "about(0, 3) = 0");
    }

    private static void about() {
        started("18 what = 0 .. 3").calls("about(0, 0) = 0", "about(0, 1) = 0", "about(0, 2) = 5", "about(0, 3) = 0", "make(0, 4, true)", "mark(0) = 1", "mark(0) = 2", "about(0, 0) = 1", "about(0, 1) = 2", "about(0, 2) = 6", "about(0, 3) = 2");
        started("18 how many nodes its view has: not those of others").calls("begin() = 1", "make(1, 4, true)", "remove(1, 3) = true", "remove(1, 2) = false", "about(0, 2) = 5", "about(1, 2) = 4", "commit(1) = 2", "about(0, 2) = 5", "count(1) = 4");
        started("18 IllegalArgumentException: no such what").calls("about(0, -1) throws IllegalArgumentException", "about(0, 4) throws IllegalArgumentException", "about(0, " + LEAST + ") throws IllegalArgumentException",
            "about(0, " + GREATEST + ") throws IllegalArgumentException", "about(1, 4) throws IllegalStateException", "about(NONE, 2) throws IllegalStateException", "about(6, 0) throws IllegalStateException");
        fallen("18 IllegalStateException: all is DOWN").calls("about(0, 0) throws IllegalStateException", "about(1, 4) throws IllegalStateException");
    }

    private static void power() {
        new Run("19 IllegalArgumentException: n is not NONE .. 1000").calls("power(-1)", "power(0)", "power(1000)", "power(1001) throws IllegalArgumentException", "power(-2) throws IllegalArgumentException",
            "power(" + LEAST + ") throws IllegalArgumentException", "power(" + GREATEST + ") throws IllegalArgumentException");
        started("19 NONE: it stays").calls("power(0)", "power(NONE)", "make(0, 4, true)", "commit(0) = 2", "count(4) = 0");
        started("19 from now on: the latest counts").calls("power(0)", "power(5)", "make(0, 4, true)", "commit(0) = 2", "power(5)", "begin() = 0", "make(0, 5, true)", "commit(0) = 3", "begin() = 0", "make(0, 6, true)", "commit(0) = LOST", "count(5) = 21");
        started("19 a refused n leaves what was set").calls("power(1)", "power(1001) throws IllegalArgumentException", "power(-2) throws IllegalArgumentException", "make(0, 4, true)", "commit(0) = LOST", "count(5) = 12");
        fallen("19 also while all is DOWN: for what RECOVER writes").calls("count(5) = 13", "power(1001) throws IllegalArgumentException", "power(2)", "recover() = LOST", "count(5) = 15", "power(0)", "power(NONE)", "recover() = 3", "count(5) = 18");
        fallen("19 and for what is written behind it").calls("power(4)", "recover() = 3", "begin() = 0", "make(0, 5, true)", "commit(0) = LOST", "count(5) = 17", "recover() = 0");
        started("19 while DOWN before the mark: RECOVER writes nothing, so the power goes behind it").calls("make(0, 4, true)", "power(1)", "commit(0) = LOST", "power(0)", "recover() = 0", "count(4) = 0",
            "begin() = 0", "commit(0) = 2", "begin() = 0", "make(0, 4, true)", "commit(0) = LOST", "count(5) = 12", "recover() = 0");
        started("19 calls that write nothing leave what was set").calls("power(1)", "begin() = 1", "begin() = 2", "mark(0) = 1", "make(0, 4, true)", "back(0) = 0", "kind(0, 4) = 0", "drop(1) = 0", "commit(2) = 2", "check(0) = 0",
            "about(0, 1) = 0", "count(5) = 11", "recover() throws IllegalStateException", "make(0, 4, true)", "commit(0) = LOST", "count(5) = 12");
        started("19 when it went, it stays").calls("make(0, 4, true)", "power(0)", "commit(0) = LOST", "recover() = 0", "begin() = 0", "make(0, 4, true)", "commit(0) = 2");
    }

    /** 13 directories with one inside and a node that goes to and fro: 35 blocks a commit. */
    private static void powerThousand() {
        for (int n : new int[] {999, 1000}) {
            Run run = new Run("19 NONE .. 1000: it goes at block " + n).call("begin() = 0");
            for (int name = 1; name <= 13; name++) {
                run.calls("make(0, " + name + ", true)", "make(0, " + (16 * name + 1) + ", true)", "make(0, " + (16 * name + 2) + ", true)");
            }
            // E = 78: 20 of the record, the mark, 40 home blocks, the one that clears
            run.calls("commit(0) = 1", "count(5) = 62", "power(" + n + ")");
            for (int turn = 1; turn <= 29; turn++) {
                run.call("begin() = 0");
                for (int name = 1; name <= 13; name++) {
                    int up = 16 * name + 2;
                    int down = 256 * name + 0x11;
                    run.call("move(0, " + (turn % 2 == 1 ? up : down) + ", " + (turn % 2 == 1 ? down : up) + ") = true");
                }
                // E = 26: 7 of the record, the mark, 26 home blocks, the one that clears
                run.call(turn <= 28 ? "commit(0) = " + (turn + 1) : "commit(0) = LOST");
            }
            run.calls("count(5) = " + (62 + n), "count(0) = 30", "recover() = 27", "count(5) = " + (62 + n + 27), "kind(NONE, 0xD11) = 1");
        }
    }

    private static void recover() {
        fallen("20 all is up again, the tree as it counts: how many blocks were written").calls("kind(NONE, 0) throws IllegalStateException", "recover() = 3", "count(4) = 0", "kind(NONE, 4) = 1", "count(1) = 6", "count(5) = 16", "begin() = 0", "kind(0, 4) = 1");
        started("20 how many blocks were written: none, if it was cut before its mark").calls("make(0, 4, true)", "power(1)", "commit(0) = LOST", "recover() = 0", "count(4) = 0", "kind(NONE, 4) = 0", "count(1) = 5", "count(5) = 12");
        fallen("20 LOST: the power went again, all is DOWN").calls("power(2)", "recover() = LOST", "count(4) = 1", "count(1) = 5", "begin() throws IllegalStateException", "kind(NONE, 4) throws IllegalStateException", "recover() = 3", "count(1) = 6");
        started("20 IllegalStateException: all is not DOWN").calls("recover() throws IllegalStateException", "power(0)", "recover() throws IllegalStateException", "count(5) = 11", "make(0, 4, true)", "commit(0) = LOST", "recover() = 0", "recover() throws IllegalStateException");
        fallen("20 what has been recovered is not so again").calls("recover() = 3", "begin() = 0", "remove(0, 4) = true", "power(0)", "commit(0) = LOST", "recover() = 0", "kind(NONE, 4) = 1", "count(0) = 2",
            "begin() = 0", "remove(0, 4) = true", "power(2)", "commit(0) = LOST", "recover() = 2", "kind(NONE, 4) = 0", "count(0) = 3");
    }

    private static void count() {
        started("21 0 how many were committed").calls("count(0) = 1", "drop(0) = 0", "count(0) = 1", "begin() = 0", "commit(0) = 2", "count(0) = 2");
        fallen("21 0 those behind their marks, too").calls("count(0) = 2", "power(0)", "recover() = LOST", "count(0) = 2", "recover() = 3", "count(0) = 2");
        started("21 1 nodes of the tree, 2 its blocks").calls("count(1) = 5", "count(2) = 6", "make(0, 4, true)", "append(0, 2, 1) = 1", "count(1) = 5", "count(2) = 6", "commit(0) = 2", "count(1) = 6", "count(2) = 8");
        Run blocks = new Run("21 2 a directory 1, a file 1 and one for each eight words of its length, begun ones too").calls("begin() = 0", "make(0, 1, false)", "commit(0) = 1", "count(2) = 2");
        for (int n = 1; n <= 64; n++) {
            blocks.calls("begin() = 0", "append(0, 1, 0) = " + n, "commit(0) = " + (n + 1), "count(2) = " + (2 + (n % 8 == 0 ? n / 8 : n / 8 + 1)));
        }
        started("21 3 transactions").calls("count(3) = 1", "begin() = 1", "count(3) = 2", "commit(0) = 2", "count(3) = 1", "drop(1) = 0", "count(3) = 0");
        started("21 4 whether all is DOWN").calls("count(4) = 0", "make(0, 4, true)", "power(0)", "count(4) = 0", "commit(0) = LOST", "count(4) = 1", "recover() = 0", "count(4) = 0");
        new Run("21 IllegalArgumentException: no such what").calls("count(-1) throws IllegalArgumentException", "count(6) throws IllegalArgumentException", "count(" + LEAST + ") throws IllegalArgumentException", "count(" + GREATEST + ") throws IllegalArgumentException");
        fallen("21 IllegalArgumentException, also while DOWN").calls("count(-1) throws IllegalArgumentException", "count(6) throws IllegalArgumentException", "count(5) = 13");
    }

    private static void countWhileDown() {
        fallen("21 1 and 2 while DOWN: as the tree was before what was cut").calls("count(1) = 5", "count(2) = 6", "count(3) = 0", "power(2)", "recover() = LOST", "count(1) = 5", "count(2) = 6", "recover() = 3", "count(1) = 6", "count(2) = 7");
        started("21 1 and 2 while DOWN: of what makes it smaller").calls("remove(0, 2) = false", "cut(0, 0x12, 0) = 2", "power(4)", "commit(0) = LOST", "count(1) = 5", "count(2) = 6", "recover() = 3", "count(1) = 4", "count(2) = 4");
    }
}
