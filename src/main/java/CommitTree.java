import java.util.Arrays;
import java.util.NoSuchElementException;

/**
 * A tree of files on a disk, changed by transactions that are put in whole or
 * not at all, at whatever block the power goes.
 */
public final class CommitTree {
    public static final int NONE = -1;
    public static final int REFUSED = -2, FULL = -3, LOST = -4;

    private static final int MOST_TRANSACTIONS = 6;
    private static final int MOST_MARKS = 3;
    private static final int MOST_NODES_OF_A_VIEW = 60;
    private static final int MOST_NODES = 40;
    private static final int MOST_BLOCKS = 90;
    private static final int MOST_COMING = 124;
    private static final int MOST_POWER = 1000;

    private static final int NAMES = 15;
    private static final int WORDS = 64;
    private static final int WORDS_OF_A_BLOCK = 8;
    private static final int ITEMS_OF_A_BLOCK = 4;

    private static final int NAME_BITS = 4;
    private static final int NAME_MASK = 15;
    private static final int FIRST_NAME_SHIFT = 24;
    private static final int GREATEST_PATH = 0xFFFFFFF;

    /** What an entry holds that has no node; nodes are numbered from ROOT on. */
    private static final int NO_NODE = 0;
    private static final int ROOT = 1;

    private final Tree tree;
    /** The tree that a commit leads to; while DOWN, the one that RECOVER puts in if the record counts. */
    private final Tree next;
    private final Merge merge;
    private final Disk disk;
    private final Transaction[] transactions;
    /** Stands for NONE: its view is the tree itself, its base has no node, so that it never READs. */
    private final Transaction outside;
    private int newestNode;
    private int committed;
    private int homeBlocks;
    private boolean down;
    private boolean recordCounts;

    public CommitTree() {
        tree = new Tree();
        tree.add(Node.blank(ROOT, true));
        next = new Tree();
        merge = new Merge();
        disk = new Disk();
        transactions = new Transaction[MOST_TRANSACTIONS];
        for (int t = 0; t < transactions.length; t++) {
            transactions[t] = new Transaction(new Tree());
        }
        outside = new Transaction(tree);
        newestNode = ROOT;
        committed = 0;
        homeBlocks = 0;
        down = false;
        recordCounts = false;
    }

    public int begin() throws IllegalStateException, UnsupportedOperationException {
        if (down) {
            throw new IllegalStateException("all is down");
        }
        for (int t = 0; t < transactions.length; t++) {
            Transaction free = transactions[t];
            if (free != null && !free.open) {
                free.start(tree);
                return t;
            }
        }
        throw new UnsupportedOperationException("there are six transactions");
    }

    public int drop(int t) throws IllegalStateException {
        Transaction a = opened(t);
        a.open = false;
        return a.itemsRead();
    }

    public int commit(int t) throws IllegalStateException {
        Transaction a = opened(t);
        int verdict = judged(a);
        if (verdict == FULL) {
            return FULL;
        }
        a.open = false;
        if (verdict == REFUSED) {
            return REFUSED;
        }
        if (merge.items == 0) {
            committed++;
            return committed;
        }
        merge.build(a.base, a.view, tree, next);
        homeBlocks = merge.home;
        return written(merge.items) ? committed : LOST;
    }

    public int check(int t) throws IllegalStateException {
        return judged(opened(t));
    }

    public void make(int t, int path, boolean directory) throws IllegalStateException, IllegalArgumentException, java.util.NoSuchElementException, UnsupportedOperationException {
        Transaction a = opened(t);
        needPathBelowRoot(path);
        Node parent = parentWithRoom(a, path);
        if (a.view.size >= MOST_NODES_OF_A_VIEW) {
            throw new UnsupportedOperationException("the view has 60 nodes");
        }
        newestNode++;
        a.view.put(Node.blank(newestNode, directory));
        a.view.setEntry(parent.id, path & NAME_MASK, newestNode);
    }

    public boolean remove(int t, int path) throws IllegalStateException, IllegalArgumentException, java.util.NoSuchElementException, UnsupportedOperationException {
        Transaction a = opened(t);
        needPathBelowRoot(path);
        Node parent = a.lookUp(path >> NAME_BITS);
        Node node = a.step(parent, path & NAME_MASK);
        if (node == null || parent == null) {
            throw new NoSuchElementException("there is nothing at the path");
        }
        if (node.directory && a.namesOf(node) != 0) {
            throw new UnsupportedOperationException("the directory is not empty");
        }
        a.view.takeOut(node.id);
        a.view.setEntry(parent.id, path & NAME_MASK, NO_NODE);
        return node.directory;
    }

    public boolean move(int t, int from, int to) throws IllegalStateException, IllegalArgumentException, java.util.NoSuchElementException, UnsupportedOperationException {
        Transaction a = opened(t);
        needPathBelowRoot(from);
        needPathBelowRoot(to);
        if (isOrGoesThrough(to, from)) {
            throw new IllegalArgumentException("the second path is the first one, or goes through it");
        }
        Node oldParent = a.lookUp(from >> NAME_BITS);
        Node node = a.step(oldParent, from & NAME_MASK);
        if (node == null || oldParent == null) {
            throw new NoSuchElementException("there is nothing at the first path");
        }
        Node newParent = parentWithRoom(a, to);
        a.view.setEntry(oldParent.id, from & NAME_MASK, NO_NODE);
        a.view.setEntry(newParent.id, to & NAME_MASK, node.id);
        return node.directory;
    }

    public int write(int t, int path, int i, int word) throws IllegalStateException, IllegalArgumentException, java.util.NoSuchElementException, UnsupportedOperationException, IndexOutOfBoundsException {
        Transaction a = opened(t);
        Node file = measuredFile(a, path);
        needWord(file, i);
        a.view.put(file.withCell(i, word, file.size));
        return file.size;
    }

    public int append(int t, int path, int word) throws IllegalStateException, IllegalArgumentException, java.util.NoSuchElementException, UnsupportedOperationException {
        Transaction a = opened(t);
        Node file = measuredFile(a, path);
        if (file.size >= WORDS) {
            throw new UnsupportedOperationException("the file has 64 words");
        }
        a.view.put(file.withCell(file.size, word, file.size + 1));
        return file.size + 1;
    }

    public int cut(int t, int path, int n) throws IllegalStateException, IllegalArgumentException, java.util.NoSuchElementException, UnsupportedOperationException, IndexOutOfBoundsException {
        Transaction a = opened(t);
        if (n < 0 || n > WORDS) {
            throw new IllegalArgumentException("no file has so many words");
        }
        Node file = measuredFile(a, path);
        if (file.size < n) {
            throw new IndexOutOfBoundsException("the file has fewer words");
        }
        a.view.put(file.cutTo(n));
        return file.size - n;
    }

    public int read(int t, int path, int i) throws IllegalStateException, IllegalArgumentException, java.util.NoSuchElementException, UnsupportedOperationException, IndexOutOfBoundsException {
        Transaction a = openedOrNone(t);
        Node file = measuredFile(a, path);
        needWord(file, i);
        a.lookAtCell(file, i);
        return file.cell(i);
    }

    public int length(int t, int path) throws IllegalStateException, IllegalArgumentException, java.util.NoSuchElementException, UnsupportedOperationException {
        return measuredFile(openedOrNone(t), path).size;
    }

    public int kind(int t, int path) throws IllegalStateException, IllegalArgumentException {
        Transaction a = openedOrNone(t);
        needPath(path);
        Node node = a.lookUp(path);
        if (node == null) {
            return 0;
        }
        return node.directory ? 1 : 2;
    }

    public int list(int t, int path) throws IllegalStateException, IllegalArgumentException, java.util.NoSuchElementException, UnsupportedOperationException {
        Transaction a = openedOrNone(t);
        needPath(path);
        Node node = a.lookUp(path);
        if (node == null) {
            throw new NoSuchElementException("there is nothing at the path");
        }
        if (!node.directory) {
            throw new UnsupportedOperationException("it is a file");
        }
        return a.namesOf(node);
    }

    public int mark(int t) throws IllegalStateException, UnsupportedOperationException {
        Transaction a = opened(t);
        if (!a.pushMark()) {
            throw new UnsupportedOperationException("there are three marks");
        }
        return a.marked;
    }

    public int back(int t) throws IllegalStateException, UnsupportedOperationException {
        Transaction a = opened(t);
        if (!a.popMark()) {
            throw new UnsupportedOperationException("there is no mark");
        }
        return a.marked;
    }

    public int about(int t, int what) throws IllegalStateException, IllegalArgumentException {
        Transaction a = opened(t);
        switch (what) {
            case 0:
                return a.itemsRead();
            case 1:
                // Against its own base, all that it CHANGED comes.
                merge.weigh(a.base, a.view, a.base);
                return merge.items;
            case 2:
                return a.view.size;
            case 3:
                return a.marked;
            default:
                throw new IllegalArgumentException("no such what");
        }
    }

    public void power(int n) throws IllegalArgumentException {
        if (n < NONE || n > MOST_POWER) {
            throw new IllegalArgumentException("not NONE .. 1000");
        }
        disk.left = n;
    }

    public int recover() throws IllegalStateException {
        if (!down) {
            throw new IllegalStateException("all is not down");
        }
        if (!recordCounts) {
            down = false;
            return 0;
        }
        if (!broughtHome()) {
            return LOST;
        }
        down = false;
        return homeBlocks + 1;
    }

    public int count(int what) throws IllegalArgumentException {
        switch (what) {
            case 0:
                return committed;
            case 1:
                return tree.size;
            case 2:
                return tree.blocks();
            case 3:
                return openTransactions();
            case 4:
                return down ? 1 : 0;
            case 5:
                return disk.written;
            default:
                throw new IllegalArgumentException("no such what");
        }
    }

    private Transaction opened(int t) {
        Transaction found = t >= 0 && t < transactions.length ? transactions[t] : null;
        if (down || found == null || !found.open) {
            throw new IllegalStateException("all is down, or there is no such transaction");
        }
        return found;
    }

    private Transaction openedOrNone(int t) {
        return t == NONE && !down ? outside : opened(t);
    }

    private static void needPath(int path) {
        if (!isPath(path)) {
            throw new IllegalArgumentException("not a path");
        }
    }

    private static void needPathBelowRoot(int path) {
        if (path == 0 || !isPath(path)) {
            throw new IllegalArgumentException("not a path below the root");
        }
    }

    private static boolean isPath(int path) {
        if (path < 0 || path > GREATEST_PATH) {
            return false;
        }
        for (int shift = 0; shift <= FIRST_NAME_SHIFT; shift += NAME_BITS) {
            int left = path >> shift;
            if (left != 0 && (left & NAME_MASK) == 0) {
                return false;
            }
        }
        return true;
    }

    private static boolean isOrGoesThrough(int path, int other) {
        for (int shift = 0; shift <= FIRST_NAME_SHIFT; shift += NAME_BITS) {
            if (path >> shift == other) {
                return true;
            }
        }
        return false;
    }

    /** The directory in which a path has its last name, with no node of that name yet. */
    private static Node parentWithRoom(Transaction a, int path) {
        Node parent = a.lookUp(path >> NAME_BITS);
        if (parent == null) {
            throw new NoSuchElementException("there is nothing at the path without its last name");
        }
        if (!parent.directory) {
            throw new UnsupportedOperationException("the path without its last name is a file's");
        }
        if (a.step(parent, path & NAME_MASK) != null) {
            throw new UnsupportedOperationException("there is something at the path");
        }
        return parent;
    }

    /** The file at a path; its length is looked at. */
    private static Node measuredFile(Transaction a, int path) {
        needPath(path);
        Node node = a.lookUp(path);
        if (node == null) {
            throw new NoSuchElementException("there is nothing at the path");
        }
        if (node.directory) {
            throw new UnsupportedOperationException("it is a directory");
        }
        a.lookAtSize(node);
        return node;
    }

    private static void needWord(Node file, int i) {
        if (i < 0 || i >= file.size) {
            throw new IndexOutOfBoundsException("the file has no such word");
        }
    }

    private int judged(Transaction a) {
        if (a.isStale(tree)) {
            return REFUSED;
        }
        merge.weigh(a.base, a.view, tree);
        return merge.isTooMuch() ? FULL : 0;
    }

    /** Writes record, mark and home blocks; whether the power stayed. */
    private boolean written(int items) {
        int recordBlocks = (items + ITEMS_OF_A_BLOCK - 1) / ITEMS_OF_A_BLOCK;
        // The record's blocks and then the mark: without the last of them nothing counts.
        if (!disk.put(recordBlocks + 1)) {
            goDown();
            return false;
        }
        committed++;
        recordCounts = true;
        if (!broughtHome()) {
            goDown();
            return false;
        }
        return true;
    }

    /** Writes the home blocks and the one that clears the record; whether the power stayed. */
    private boolean broughtHome() {
        if (!disk.put(homeBlocks + 1)) {
            return false;
        }
        tree.copyFrom(next);
        recordCounts = false;
        return true;
    }

    private void goDown() {
        down = true;
        for (int t = 0; t < transactions.length; t++) {
            Transaction a = transactions[t];
            if (a != null) {
                a.open = false;
            }
        }
    }

    private int openTransactions() {
        int found = 0;
        for (int t = 0; t < transactions.length; t++) {
            Transaction a = transactions[t];
            if (a != null && a.open) {
                found++;
            }
        }
        return found;
    }

    /** The blocks written, and how many more can be before the power goes. */
    private static final class Disk {
        int written = 0;
        int left = NONE;

        /** Writes so many blocks, or those before the power goes; whether it stayed. */
        boolean put(int blocks) {
            if (left == NONE) {
                written += blocks;
                return true;
            }
            if (left >= blocks) {
                written += blocks;
                left -= blocks;
                return true;
            }
            written += left;
            left = NONE;
            return false;
        }
    }

    /** A node as it is in some trees. It is never changed, so that trees can share it. */
    private static final class Node {
        final int id;
        final boolean directory;
        /** A file's length; 0 of a directory. */
        final int size;
        /** A directory's entries by name (which node, or NO_NODE), or a file's words. */
        final int[] cells;

        Node(int id, boolean directory, int size, int[] cells) {
            this.id = id;
            this.directory = directory;
            this.size = size;
            this.cells = cells;
        }

        static Node blank(int id, boolean directory) {
            return new Node(id, directory, 0, new int[directory ? NAMES + 1 : WORDS]);
        }

        int cell(int i) {
            return i >= 0 && i < cells.length ? cells[i] : 0;
        }

        Node withCell(int i, int value, int newSize) {
            int[] changed = cells.clone();
            if (i >= 0 && i < changed.length) {
                changed[i] = value;
            }
            return new Node(id, directory, newSize, changed);
        }

        Node cutTo(int n) {
            int[] changed = cells.clone();
            for (int i = Math.max(n, 0); i < changed.length; i++) {
                changed[i] = 0;
            }
            return new Node(id, directory, n, changed);
        }

        int blocks() {
            return directory ? 1 : 1 + wordBlocks(size);
        }

        static int wordBlocks(int words) {
            return (words + WORDS_OF_A_BLOCK - 1) / WORDS_OF_A_BLOCK;
        }
    }

    /** The nodes that are there. */
    private static final class Tree {
        final Node[] nodes = new Node[MOST_NODES_OF_A_VIEW];
        int size = 0;

        Node at(int place) {
            return place >= 0 && place < size && place < nodes.length ? nodes[place] : null;
        }

        /** Where a node is among the nodes, or NONE. */
        int placeOf(int id) {
            for (int place = 0; place < size && place < nodes.length; place++) {
                Node node = nodes[place];
                if (node != null && node.id == id) {
                    return place;
                }
            }
            return NONE;
        }

        Node find(int id) {
            return at(placeOf(id));
        }

        void add(Node node) {
            if (size >= 0 && size < nodes.length) {
                nodes[size] = node;
                size++;
            }
        }

        /** Puts a node in the stead of what it was before, or as a new one. */
        void put(Node node) {
            int place = placeOf(node.id);
            if (place >= 0 && place < nodes.length) {
                nodes[place] = node;
            } else {
                add(node);
            }
        }

        void takeOut(int id) {
            int place = placeOf(id);
            Node last = at(size - 1);
            if (place >= 0 && place < nodes.length && last != null) {
                nodes[place] = last;
                size--;
            }
        }

        void setEntry(int id, int name, int node) {
            Node directory = find(id);
            if (directory != null) {
                put(directory.withCell(name, node, directory.size));
            }
        }

        void copyFrom(Tree other) {
            size = 0;
            for (int place = 0; place < other.size; place++) {
                Node node = other.at(place);
                if (node != null) {
                    add(node);
                }
            }
        }

        int blocks() {
            int sum = 0;
            for (int place = 0; place < size; place++) {
                Node node = at(place);
                if (node != null) {
                    sum += node.blocks();
                }
            }
            return sum;
        }
    }

    /** A view, the base that it came from, and what has been READ. */
    private static final class Transaction {
        final Tree base = new Tree();
        final Tree view;
        final Tree[] marks = new Tree[MOST_MARKS];
        /** By the node's place in the base, a bit for each entry or word that is READ. */
        final long[] cellsRead = new long[MOST_NODES_OF_A_VIEW];
        /** By the node's place in the base: of a directory a bit for each HAS, of a file one for its length. */
        final long[] factsRead = new long[MOST_NODES_OF_A_VIEW];
        boolean open = false;
        int marked = 0;

        Transaction(Tree view) {
            this.view = view;
            for (int m = 0; m < marks.length; m++) {
                marks[m] = new Tree();
            }
        }

        void start(Tree tree) {
            base.copyFrom(tree);
            view.copyFrom(tree);
            Arrays.fill(cellsRead, 0L);
            Arrays.fill(factsRead, 0L);
            marked = 0;
            open = true;
        }

        /** What the view has at a path that is one, or null; its entries are looked at. */
        Node lookUp(int path) {
            Node at = view.find(ROOT);
            for (int shift = FIRST_NAME_SHIFT; shift >= 0; shift -= NAME_BITS) {
                int name = path >> shift & NAME_MASK;
                if (name != 0) {
                    at = step(at, name);
                }
            }
            return at;
        }

        /** The node of a name in a directory, whose entry is looked at; null where there is none. */
        Node step(Node at, int name) {
            if (at == null || !at.directory) {
                return null;
            }
            lookAtCell(at, name);
            return view.find(at.cell(name));
        }

        void lookAtCell(Node node, int i) {
            int place = base.placeOf(node.id);
            Node before = base.at(place);
            if (before != null && before.cell(i) == node.cell(i)) {
                noteRead(cellsRead, place, i);
            }
        }

        void lookAtSize(Node file) {
            int place = base.placeOf(file.id);
            Node before = base.at(place);
            if (before != null && before.size == file.size) {
                noteRead(factsRead, place, 0);
            }
        }

        /** The names that a directory has, as bits; HAS of all names is looked at. */
        int namesOf(Node directory) {
            int place = base.placeOf(directory.id);
            Node before = base.at(place);
            int names = 0;
            for (int name = 1; name <= NAMES; name++) {
                boolean has = directory.cell(name) != NO_NODE;
                if (has) {
                    names |= 1 << name;
                }
                if (before != null && has == (before.cell(name) != NO_NODE)) {
                    noteRead(factsRead, place, name);
                }
            }
            return names;
        }

        private static void noteRead(long[] notes, int place, int bit) {
            if (place >= 0 && place < notes.length) {
                notes[place] |= 1L << bit;
            }
        }

        int itemsRead() {
            int sum = 0;
            for (int place = 0; place < base.size && place < cellsRead.length && place < factsRead.length; place++) {
                sum += Long.bitCount(cellsRead[place]) + Long.bitCount(factsRead[place]);
            }
            return sum;
        }

        /** Whether something that is READ is no more so in the tree. */
        boolean isStale(Tree tree) {
            for (int place = 0; place < base.size && place < cellsRead.length && place < factsRead.length; place++) {
                Node before = base.at(place);
                long cells = cellsRead[place];
                long facts = factsRead[place];
                if (before != null && (cells | facts) != 0 && differs(before, tree.find(before.id), cells, facts)) {
                    return true;
                }
            }
            return false;
        }

        private static boolean differs(Node before, Node now, long cells, long facts) {
            if (now == null) {
                return true;
            }
            if (!before.directory && facts != 0 && before.size != now.size) {
                return true;
            }
            for (int i = 0; i < before.cells.length; i++) {
                int was = before.cell(i);
                int is = now.cell(i);
                if ((cells >> i & 1) != 0 && was != is) {
                    return true;
                }
                if (before.directory && (facts >> i & 1) != 0 && (was != NO_NODE) != (is != NO_NODE)) {
                    return true;
                }
            }
            return false;
        }

        /** Whether there was room for one mark more. */
        boolean pushMark() {
            Tree free = markAt(marked);
            if (free == null) {
                return false;
            }
            free.copyFrom(view);
            marked++;
            return true;
        }

        /** Whether there was a mark to go back to. */
        boolean popMark() {
            Tree latest = markAt(marked - 1);
            if (latest == null) {
                return false;
            }
            view.copyFrom(latest);
            marked--;
            return true;
        }

        private Tree markAt(int m) {
            return m >= 0 && m < marks.length ? marks[m] : null;
        }
    }

    /** What a view CHANGED against its base, put into a tree. */
    private static final class Merge {
        /** Of what comes, how many; then nodes and blocks of the tree with it, and its home blocks. */
        int items = 0;
        int nodes = 0;
        int blocks = 0;
        int home = 0;
        private final Node noDirectory = Node.blank(NO_NODE, true);
        private final Node noFile = Node.blank(NO_NODE, false);

        boolean isTooMuch() {
            return nodes > MOST_NODES || blocks > MOST_BLOCKS || items > MOST_COMING;
        }

        void weigh(Tree base, Tree view, Tree tree) {
            items = 0;
            nodes = 0;
            blocks = 0;
            home = 0;
            for (int place = 0; place < tree.size; place++) {
                Node in = tree.at(place);
                if (in != null) {
                    weighKept(base.find(in.id), view.find(in.id), in);
                }
            }
            for (int place = 0; place < view.size; place++) {
                Node made = view.at(place);
                if (made != null && base.find(made.id) == null) {
                    weighMade(made);
                }
            }
        }

        private void weighKept(Node from, Node to, Node in) {
            if (from == null) {
                // It came from others since the base: nothing of it can be CHANGED.
                weighNode(in, in, in, false);
            } else if (to != null) {
                weighNode(from, to, in, false);
            }
        }

        private void weighMade(Node made) {
            Node nothing = made.directory ? noDirectory : noFile;
            items++;
            weighNode(nothing, made, nothing, true);
        }

        private void weighNode(Node from, Node to, Node in, boolean isNew) {
            int cellsComing = 0;
            for (int i = 0; i < to.cells.length; i++) {
                if (comes(from.cell(i), to.cell(i), in.cell(i))) {
                    cellsComing++;
                }
            }
            boolean sizeComes = comes(from.size, to.size, in.size);
            items += cellsComing + (sizeComes ? 1 : 0);
            nodes++;
            if (to.directory) {
                blocks++;
                home += isNew || cellsComing > 0 ? 1 : 0;
            } else {
                blocks += 1 + Node.wordBlocks(merged(from.size, to.size, in.size));
                home += isNew || sizeComes ? 1 : 0;
                home += wordBlocksComing(from, to, in);
            }
        }

        private static int wordBlocksComing(Node from, Node to, Node in) {
            int size = merged(from.size, to.size, in.size);
            int latest = NONE;
            int sum = 0;
            for (int i = 0; i < size; i++) {
                int block = i / WORDS_OF_A_BLOCK;
                if (block != latest && (i >= in.size || comes(from.cell(i), to.cell(i), in.cell(i)))) {
                    latest = block;
                    sum++;
                }
            }
            return sum;
        }

        /** The tree with what comes; it has been weighed before and is not too much. */
        void build(Tree base, Tree view, Tree tree, Tree into) {
            into.size = 0;
            for (int place = 0; place < tree.size; place++) {
                Node in = tree.at(place);
                if (in != null) {
                    addKept(base.find(in.id), view.find(in.id), in, into);
                }
            }
            for (int place = 0; place < view.size; place++) {
                Node made = view.at(place);
                if (made != null && base.find(made.id) == null) {
                    into.add(made);
                }
            }
        }

        private static void addKept(Node from, Node to, Node in, Tree into) {
            if (from == null) {
                into.add(in);
            } else if (to != null) {
                into.add(mergedNode(from, to, in));
            }
        }

        private static Node mergedNode(Node from, Node to, Node in) {
            if (to == from) {
                // Nothing of it was set in the view: no new object for what stays.
                return in;
            }
            int size = merged(from.size, to.size, in.size);
            int[] cells = new int[in.cells.length];
            for (int i = 0; i < cells.length; i++) {
                // Others may have set a word behind the end that this view has cut to: words there are 0.
                boolean behindEnd = !in.directory && i >= size;
                cells[i] = behindEnd ? 0 : merged(from.cell(i), to.cell(i), in.cell(i));
            }
            return new Node(in.id, in.directory, size, cells);
        }

        private static boolean comes(int from, int to, int in) {
            return to != from && to != in;
        }

        private static int merged(int from, int to, int in) {
            return to != from ? to : in;
        }
    }
}
