import java.util.ArrayDeque;
import java.util.ArrayList;
import java.util.HashSet;
import java.util.LinkedHashSet;
import java.util.List;
import java.util.NoSuchElementException;
import java.util.Set;
import java.util.TreeMap;

/**
 * The document once more, in its own words and without regard to speed or room: items have keys,
 * what is READ and CHANGED is a set of keys, and what is THERE is found from the root on.
 */
final class Model {
    static final int NONE = -1, REFUSED = -2, FULL = -3, LOST = -4;

    static final class N {
        boolean dir;
        int[] entries = new int[16];
        int len;
        int[] words = new int[64];

        N copy() {
            N c = new N();
            c.dir = dir;
            c.entries = entries.clone();
            c.len = len;
            c.words = words.clone();
            return c;
        }
    }

    /** An item, or with kind 'N' a node itself. */
    record Key(char kind, int node, int i) { }

    static final class State {
        final TreeMap<Integer, N> all = new TreeMap<>();

        State copy() {
            State s = new State();
            for (int id : all.keySet()) {
                s.all.put(id, all.get(id).copy());
            }
            return s;
        }

        Set<Integer> there() {
            Set<Integer> found = new LinkedHashSet<>();
            ArrayDeque<Integer> todo = new ArrayDeque<>(List.of(1));
            while (!todo.isEmpty()) {
                int id = todo.poll();
                if (!found.add(id)) {
                    throw new AssertionError("two entries for one node");
                }
                for (int e : all.get(id).entries) {
                    if (e != 0) {
                        todo.add(e);
                    }
                }
            }
            return found;
        }

        int value(Key k) {
            N n = all.get(k.node());
            switch (k.kind()) {
                case 'E': return n.entries[k.i()];
                case 'H': return n.entries[k.i()] == 0 ? 0 : 1;
                case 'L': return n.len;
                default: return n.words[k.i()];
            }
        }

        int blocks() {
            int sum = 0;
            for (int id : there()) {
                N n = all.get(id);
                sum += n.dir ? 1 : 1 + (int) Math.ceil(n.len / 8.0);
            }
            return sum;
        }

        List<Key> itemsButHas(int id) {
            List<Key> keys = new ArrayList<>();
            if (all.get(id).dir) {
                for (int name = 1; name <= 15; name++) {
                    keys.add(new Key('E', id, name));
                }
            } else {
                keys.add(new Key('L', id, 0));
                for (int w = 0; w < 64; w++) {
                    keys.add(new Key('W', id, w));
                }
            }
            return keys;
        }
    }

    static final class T {
        State base;
        State view;
        final Set<Key> read = new HashSet<>();
        final ArrayList<State> marks = new ArrayList<>();
    }

    private State tree = new State();
    private State pending = null;
    private int pendingHome = 0;
    private final T[] ts = new T[6];
    private int ids = 1;
    private int committed = 0;
    private int written = 0;
    private int power = NONE;
    private boolean down = false;

    Model() {
        N root = new N();
        root.dir = true;
        tree.all.put(1, root);
    }

    /** For the drawing of calls: the transactions that are open. */
    List<Integer> openOnes() {
        List<Integer> found = new ArrayList<>();
        for (int t = 0; t < 6; t++) {
            if (ts[t] != null) {
                found.add(t);
            }
        }
        return found;
    }

    /** For the drawing of calls: paths of directories, or of files, in a view. */
    List<Integer> pathsOf(int t, boolean directories) {
        State s = t >= 0 && t < 6 && ts[t] != null ? ts[t].view : tree;
        List<Integer> found = new ArrayList<>();
        gather(s, 1, 0, directories, found);
        return found;
    }

    private static void gather(State s, int node, int path, boolean directories, List<Integer> found) {
        N n = s.all.get(node);
        if (n.dir == directories) {
            found.add(path);
        }
        for (int name = 1; name <= 15 && path <= 0xFFFFFF; name++) {
            if (n.entries[name] != 0) {
                gather(s, n.entries[name], path << 4 | name, directories, found);
            }
        }
    }

    private T open(int t) {
        if (down || t < 0 || t > 5 || ts[t] == null) {
            throw new IllegalStateException();
        }
        return ts[t];
    }

    /** NONE: a transaction of which nothing is kept, so nothing is READ. */
    private T openOrTree(int t) {
        if (down || t != NONE) {
            return open(t);
        }
        T all = new T();
        all.base = tree;
        all.view = tree;
        return all;
    }

    /** The names of a path; an exception if it is none. */
    private static int[] names(int path) {
        if (path == 0) {
            return new int[0];
        }
        String hex = Integer.toHexString(path);
        if (hex.length() > 7 || hex.indexOf('0') >= 0) {
            throw new IllegalArgumentException();
        }
        int[] names = new int[hex.length()];
        for (int i = 0; i < names.length; i++) {
            names[i] = Character.digit(hex.charAt(i), 16);
        }
        return names;
    }

    private static void look(T a, Key k) {
        if (a.base.there().contains(k.node()) && a.base.value(k) == a.view.value(k)) {
            a.read.add(k);
        }
    }

    private static void lookHas(T a, int dir) {
        for (int name = 1; name <= 15; name++) {
            look(a, new Key('H', dir, name));
        }
    }

    /** The node at the first so many names, or 0. */
    private static int lookUp(T a, int[] names, int many) {
        int at = 1;
        for (int i = 0; i < many; i++) {
            if (!a.view.all.get(at).dir) {
                return 0;
            }
            look(a, new Key('E', at, names[i]));
            at = a.view.all.get(at).entries[names[i]];
            if (at == 0) {
                return 0;
            }
        }
        return at;
    }

    int begin() {
        if (down) {
            throw new IllegalStateException();
        }
        for (int t = 0; t < 6; t++) {
            if (ts[t] == null) {
                ts[t] = new T();
                ts[t].base = tree.copy();
                ts[t].view = tree.copy();
                return t;
            }
        }
        throw new UnsupportedOperationException();
    }

    int drop(int t) {
        int read = open(t).read.size();
        ts[t] = null;
        return read;
    }

    private static Set<Key> changed(T a) {
        Set<Key> keys = new LinkedHashSet<>();
        Set<Integer> old = a.base.there();
        for (int id : a.view.there()) {
            for (Key k : a.view.itemsButHas(id)) {
                if (a.view.value(k) != (old.contains(id) ? a.base.value(k) : 0)) {
                    keys.add(k);
                }
            }
            if (!old.contains(id)) {
                keys.add(new Key('N', id, 0));
            }
        }
        return keys;
    }

    private boolean refused(T a) {
        Set<Integer> now = tree.there();
        for (Key k : a.read) {
            if (!now.contains(k.node()) || tree.value(k) != a.base.value(k)) {
                return true;
            }
        }
        return false;
    }

    private Set<Key> coming(T a) {
        Set<Key> keys = changed(a);
        Set<Integer> now = tree.there();
        keys.removeIf(k -> now.contains(k.node()) && (k.kind() == 'N' || tree.value(k) == a.view.value(k)));
        return keys;
    }

    private State merged(T a) {
        State s = tree.copy();
        for (Key k : changed(a)) {
            if (k.kind() == 'N') {
                s.all.put(k.node(), a.view.all.get(k.node()).copy());
            }
        }
        for (Key k : changed(a)) {
            N n = s.all.get(k.node());
            if (k.kind() == 'E') {
                n.entries[k.i()] = a.view.value(k);
            } else if (k.kind() == 'L') {
                n.len = a.view.value(k);
            } else if (k.kind() == 'W') {
                n.words[k.i()] = a.view.value(k);
            }
        }
        s.all.keySet().retainAll(s.there());
        for (N n : s.all.values()) {
            for (int w = n.len; w < 64; w++) {
                n.words[w] = 0;
            }
        }
        return s;
    }

    private int home(State then, Set<Key> coming) {
        int sum = 0;
        for (int id : then.there()) {
            N n = then.all.get(id);
            boolean itself = coming.contains(new Key('N', id, 0));
            if (n.dir) {
                boolean entry = false;
                for (int name = 1; name <= 15; name++) {
                    entry |= coming.contains(new Key('E', id, name));
                }
                sum += itself || entry ? 1 : 0;
            } else {
                sum += itself || coming.contains(new Key('L', id, 0)) ? 1 : 0;
                int before = tree.all.containsKey(id) ? tree.all.get(id).len : 0;
                for (int from = 0; from < n.len; from += 8) {
                    boolean writes = Math.min(from + 8, n.len) > before;
                    for (int w = from; w < from + 8 && w < n.len; w++) {
                        writes |= coming.contains(new Key('W', id, w));
                    }
                    sum += writes ? 1 : 0;
                }
            }
        }
        return sum;
    }

    int check(int t) {
        T a = open(t);
        if (refused(a)) {
            return REFUSED;
        }
        State then = merged(a);
        boolean full = then.there().size() > 40 || then.blocks() > 90 || coming(a).size() > 124;
        return full ? FULL : 0;
    }

    int commit(int t) {
        T a = open(t);
        int verdict = check(t);
        if (verdict == FULL) {
            return FULL;
        }
        ts[t] = null;
        if (verdict == REFUSED) {
            return REFUSED;
        }
        Set<Key> coming = coming(a);
        if (coming.isEmpty()) {
            return ++committed;
        }
        pending = null;
        State then = merged(a);
        int home = home(then, coming);
        int record = (int) Math.ceil(coming.size() / 4.0);
        for (int b = 0; b < record + 1; b++) {
            if (!block()) {
                return LOST;
            }
        }
        committed++;
        pending = then;
        pendingHome = home;
        for (int b = 0; b < home + 1; b++) {
            if (!block()) {
                return LOST;
            }
        }
        tree = then;
        pending = null;
        return committed;
    }

    private boolean block() {
        if (power == 0) {
            power = NONE;
            down = true;
            java.util.Arrays.fill(ts, null);
            return false;
        }
        if (power > 0) {
            power--;
        }
        written++;
        return true;
    }

    void make(int t, int path, boolean directory) {
        T a = open(t);
        int[] names = names(path);
        if (path == 0) {
            throw new IllegalArgumentException();
        }
        int dir = lookUp(a, names, names.length - 1);
        needRoom(a, dir, names[names.length - 1]);
        if (a.view.there().size() >= 60) {
            throw new UnsupportedOperationException();
        }
        N n = new N();
        n.dir = directory;
        a.view.all.put(++ids, n);
        a.view.all.get(dir).entries[names[names.length - 1]] = ids;
    }

    private static void needRoom(T a, int dir, int name) {
        if (dir == 0) {
            throw new NoSuchElementException();
        }
        if (!a.view.all.get(dir).dir) {
            throw new UnsupportedOperationException();
        }
        look(a, new Key('E', dir, name));
        if (a.view.all.get(dir).entries[name] != 0) {
            throw new UnsupportedOperationException();
        }
    }

    boolean remove(int t, int path) {
        T a = open(t);
        int[] names = names(path);
        if (path == 0) {
            throw new IllegalArgumentException();
        }
        int node = lookUp(a, names, names.length);
        if (node == 0) {
            throw new NoSuchElementException();
        }
        N n = a.view.all.get(node);
        if (n.dir) {
            lookHas(a, node);
            for (int e : n.entries) {
                if (e != 0) {
                    throw new UnsupportedOperationException();
                }
            }
        }
        unlink(a, node);
        a.view.all.remove(node);
        return n.dir;
    }

    private static void unlink(T a, int node) {
        for (N n : a.view.all.values()) {
            for (int name = 1; name <= 15; name++) {
                if (n.entries[name] == node) {
                    n.entries[name] = 0;
                }
            }
        }
    }

    boolean move(int t, int from, int to) {
        T a = open(t);
        int[] one = names(from);
        int[] two = names(to);
        if (from == 0 || to == 0 || Integer.toHexString(to).startsWith(Integer.toHexString(from))) {
            throw new IllegalArgumentException();
        }
        int node = lookUp(a, one, one.length);
        if (node == 0) {
            throw new NoSuchElementException();
        }
        int dir = lookUp(a, two, two.length - 1);
        needRoom(a, dir, two[two.length - 1]);
        unlink(a, node);
        a.view.all.get(dir).entries[two[two.length - 1]] = node;
        return a.view.all.get(node).dir;
    }

    private static N file(T a, int path) {
        int[] names = names(path);
        int node = lookUp(a, names, names.length);
        if (node == 0) {
            throw new NoSuchElementException();
        }
        if (a.view.all.get(node).dir) {
            throw new UnsupportedOperationException();
        }
        look(a, new Key('L', node, 0));
        return a.view.all.get(node);
    }

    int write(int t, int path, int i, int word) {
        N n = file(open(t), path);
        if (i < 0 || i >= n.len) {
            throw new IndexOutOfBoundsException();
        }
        n.words[i] = word;
        return n.len;
    }

    int append(int t, int path, int word) {
        N n = file(open(t), path);
        if (n.len == 64) {
            throw new UnsupportedOperationException();
        }
        n.words[n.len++] = word;
        return n.len;
    }

    int cut(int t, int path, int n) {
        T a = open(t);
        if (n < 0 || n > 64) {
            throw new IllegalArgumentException();
        }
        N f = file(a, path);
        if (f.len < n) {
            throw new IndexOutOfBoundsException();
        }
        int gone = f.len - n;
        f.len = n;
        for (int w = n; w < 64; w++) {
            f.words[w] = 0;
        }
        return gone;
    }

    int read(int t, int path, int i) {
        T a = openOrTree(t);
        N n = file(a, path);
        if (i < 0 || i >= n.len) {
            throw new IndexOutOfBoundsException();
        }
        int[] names = names(path);
        look(a, new Key('W', lookUp(a, names, names.length), i));
        return n.words[i];
    }

    int length(int t, int path) {
        return file(openOrTree(t), path).len;
    }

    int kind(int t, int path) {
        T a = openOrTree(t);
        int[] names = names(path);
        int node = lookUp(a, names, names.length);
        return node == 0 ? 0 : a.view.all.get(node).dir ? 1 : 2;
    }

    int list(int t, int path) {
        T a = openOrTree(t);
        int[] names = names(path);
        int node = lookUp(a, names, names.length);
        if (node == 0) {
            throw new NoSuchElementException();
        }
        N n = a.view.all.get(node);
        if (!n.dir) {
            throw new UnsupportedOperationException();
        }
        lookHas(a, node);
        int bits = 0;
        for (int name = 1; name <= 15; name++) {
            bits += n.entries[name] != 0 ? 1 << name : 0;
        }
        return bits;
    }

    int mark(int t) {
        T a = open(t);
        if (a.marks.size() == 3) {
            throw new UnsupportedOperationException();
        }
        a.marks.add(a.view.copy());
        return a.marks.size();
    }

    int back(int t) {
        T a = open(t);
        if (a.marks.isEmpty()) {
            throw new UnsupportedOperationException();
        }
        a.view = a.marks.remove(a.marks.size() - 1);
        return a.marks.size();
    }

    int about(int t, int what) {
        T a = open(t);
        switch (what) {
            case 0: return a.read.size();
            case 1: return changed(a).size();
            case 2: return a.view.there().size();
            case 3: return a.marks.size();
            default: throw new IllegalArgumentException();
        }
    }

    void power(int n) {
        if (n < NONE || n > 1000) {
            throw new IllegalArgumentException();
        }
        power = n;
    }

    int recover() {
        if (!down) {
            throw new IllegalStateException();
        }
        if (pending != null) {
            for (int b = 0; b < pendingHome + 1; b++) {
                if (!block()) {
                    return LOST;
                }
            }
            tree = pending;
            pending = null;
            down = false;
            return pendingHome + 1;
        }
        down = false;
        return 0;
    }

    int count(int what) {
        switch (what) {
            case 0: return committed;
            case 1: return tree.there().size();
            case 2: return tree.blocks();
            case 3:
                int open = 0;
                for (T a : ts) {
                    open += a == null ? 0 : 1;
                }
                return open;
            case 4: return down ? 1 : 0;
            case 5: return written;
            default: throw new IllegalArgumentException();
        }
    }
}
