import java.lang.reflect.Method;
import java.lang.reflect.Modifier;
import java.util.ArrayList;
import java.util.Arrays;
import java.util.List;
import java.util.Map;
import java.util.Random;
import java.util.TreeMap;

/** Runs of 512 drawn calls (the same ones each time) on the class and on the model: each answers the same. */
public final class ModelTest {
    private static final Map<String, Method> OF_CLASS = methods(CommitTree.class, true);
    private static final Map<String, Method> OF_MODEL = methods(Model.class, false);
    private static final List<String> ALL = new ArrayList<>(OF_CLASS.keySet());

    /** What a run does much of; the rest of its calls are drawn evenly. */
    private static final String[][] LEANINGS = {
        {"begin", "make", "make", "move", "remove", "commit", "kind", "list"},
        {"begin", "make", "append", "append", "append", "write", "cut", "commit", "read"},
        {"make", "make", "make", "make", "make", "make", "make", "move", "check", "begin"},
        {"make", "append", "append", "append", "append", "append", "append", "check", "begin"},
        {"begin", "make", "move", "mark", "back", "remove", "append", "commit", "about"},
        {"begin", "make", "append", "write", "cut", "power", "commit", "recover", "count"},
        {"begin", "write", "write", "cut", "append", "commit", "check", "about", "move"},
    };
    /** Verdicts that the drawing must get to, or it would test nothing of them. */
    private static final String[] NEEDED = {
        "commit -2", "commit -3", "commit -4", "recover -4", "check -2", "check -3", "about 60", "append 64",
        "make UnsupportedOperationException", "cut IndexOutOfBoundsException", "mark 3", "back 2", "begin 5",
    };

    private final Random random;
    private final String[] leaning;
    private final int names;
    private final int most;
    private final int sloppy;
    private final CommitTree one = new CommitTree();
    private final Model two = new Model();
    private String again = null;
    private Object[] againArguments = null;
    private int againLeft = 0;

    private ModelTest(long seed) {
        random = new Random(seed);
        leaning = LEANINGS[(int) (seed % LEANINGS.length)];
        names = new int[] {2, 3, 5, 15}[random.nextInt(4)];
        most = 1 + random.nextInt(6);
        sloppy = 2 + random.nextInt(30);
    }

    public static void main(String[] args) {
        int runs = args.length > 0 ? Integer.parseInt(args[0]) : 1200;
        int first = args.length > 1 ? Integer.parseInt(args[1]) : 1;
        Map<String, Integer> seen = new TreeMap<>();
        for (int seed = first; seed < first + runs; seed++) {
            new ModelTest(seed).run(seed, seen);
        }
        for (String needed : NEEDED) {
            Run.due("drawn runs", needed + " came", String.valueOf(seen.containsKey(needed)), "true");
        }
        if (args.length > 0) {
            System.out.println(seen);
        }
        Run.end();
    }

    private void run(int seed, Map<String, Integer> seen) {
        for (int n = 0; n < 512; n++) {
            String name = drawCall();
            Object[] arguments = againLeft > 0 ? againArguments : drawArguments(name);
            String call = name + Arrays.toString(arguments);
            String got = Run.answerOf(one, OF_CLASS.get(name), arguments);
            String want = Run.answerOf(two, OF_MODEL.get(name), arguments);
            seen.merge(name + " " + want, 1, Integer::sum);
            Run.due("run " + seed + ", call " + n, call, got, want);
            if (!got.equals(want)) {
                return;
            }
            drawAgain(name, arguments, want);
        }
    }

    /** Appends come in rows now and then, so that files get long. */
    private void drawAgain(String name, Object[] arguments, String answer) {
        if (againLeft > 0) {
            againLeft--;
        } else if (name.equals("append") && !answer.endsWith("Exception") && random.nextInt(6) == 0) {
            again = name;
            againArguments = arguments;
            againLeft = random.nextInt(random.nextInt(4) == 0 ? 70 : 12);
        }
    }

    private String drawCall() {
        if (againLeft > 0) {
            return again;
        }
        if (two.count(4) == 1 && random.nextInt(3) == 0) {
            return "recover";
        }
        if (random.nextInt(10) < 8) {
            String name = leaning[random.nextInt(leaning.length)];
            return name.equals("begin") && two.count(3) >= most ? "check" : name;
        }
        String name = ALL.get(random.nextInt(ALL.size()));
        boolean ends = name.equals("drop") || name.equals("power") || name.equals("commit");
        return ends && random.nextInt(4) != 0 ? "about" : name;
    }

    private Object[] drawArguments(String name) {
        int t = drawTransaction();
        switch (name) {
            case "begin": case "recover": return new Object[0];
            case "power": return new Object[] {drawPower()};
            case "count": return new Object[] {rarely(-1, 6)};
            case "about": return new Object[] {t, rarely(-1, 4)};
            case "make": return new Object[] {t, drawNewPath(t), random.nextBoolean()};
            case "move": return new Object[] {t, drawPath(t, random.nextBoolean()), drawNewPath(t)};
            case "write": return new Object[] {t, drawPath(t, false), drawIndex(), drawWord()};
            case "append": return new Object[] {t, drawPath(t, false), drawWord()};
            case "cut": case "read": return new Object[] {t, drawPath(t, false), drawIndex()};
            case "length": return new Object[] {t, drawPath(t, false)};
            case "kind": case "remove": return new Object[] {t, drawPath(t, random.nextBoolean())};
            case "list": return new Object[] {t, drawPath(t, true)};
            default: return new Object[] {t};
        }
    }

    private int rarely(int low, int high) {
        return random.nextInt(20) == 0 ? (random.nextBoolean() ? low : high) : random.nextInt(high);
    }

    private int drawTransaction() {
        List<Integer> open = two.openOnes();
        return open.isEmpty() || random.nextInt(sloppy) == 0 ? random.nextInt(9) - 2 : open.get(random.nextInt(open.size()));
    }

    private int drawPower() {
        int n = random.nextInt(10);
        return n == 0 ? random.nextInt(1100) - 50 : n < 3 ? -1 : random.nextInt(n < 7 ? 8 : 40);
    }

    private int drawPath(int t, boolean directory) {
        List<Integer> there = two.pathsOf(t, directory);
        return there.isEmpty() || random.nextInt(sloppy) == 0 ? drawAnyPath() : there.get(random.nextInt(there.size()));
    }

    private int drawNewPath(int t) {
        return random.nextInt(sloppy) == 0 ? drawAnyPath() : drawPath(t, true) << 4 | 1 + random.nextInt(names);
    }

    private int drawAnyPath() {
        if (random.nextInt(6) == 0) {
            return random.nextInt(4) == 0 ? random.nextInt() : random.nextInt(300);
        }
        int path = 0;
        int deep = random.nextInt(random.nextInt(4) == 0 ? 9 : 4);
        for (int d = 0; d < deep; d++) {
            path = path << 4 | 1 + random.nextInt(names);
        }
        return path;
    }

    private int drawIndex() {
        return random.nextInt(8) == 0 ? random.nextInt(70) - 2 : random.nextInt(random.nextBoolean() ? 4 : 12);
    }

    private int drawWord() {
        return random.nextInt(10) == 0 ? random.nextInt() : random.nextInt(4);
    }

    private static Map<String, Method> methods(Class<?> of, boolean publicAlone) {
        Map<String, Method> found = new TreeMap<>();
        for (Method m : of.getDeclaredMethods()) {
            boolean face = publicAlone ? Modifier.isPublic(m.getModifiers()) : !Modifier.isPrivate(m.getModifiers());
            if (face && !Modifier.isStatic(m.getModifiers()) && !m.isSynthetic()) {
                found.put(m.getName(), m);
            }
        }
        return found;
    }
}
