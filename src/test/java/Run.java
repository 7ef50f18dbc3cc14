import java.lang.reflect.InvocationTargetException;
import java.lang.reflect.Method;
import java.util.regex.Matcher;
import java.util.regex.Pattern;

/**
 * A run of calls on a new CommitTree. A call is written as "append(0, 0x11, 5) = 1",
 * "make(0, 1, true)" or "begin() throws IllegalStateException"; what is not as due is printed.
 */
final class Run {
    private static final Pattern LINE = Pattern.compile("(\\w+)\\(([^)]*)\\)(?: (=|throws) (-?\\w+))?");
    private static final int MOST_CALLS = 512;
    private static int wrong = 0;
    private static int done = 0;

    private final String name;
    private final CommitTree tree = new CommitTree();
    private int calls = 0;

    Run(String name) {
        this.name = name;
    }

    Run calls(String... lines) {
        for (String line : lines) {
            call(line);
        }
        return this;
    }

    Run call(String line) {
        calls++;
        if (calls > MOST_CALLS) {
            throw new IllegalArgumentException("what is behind the 512th call is free: " + name);
        }
        Matcher parts = LINE.matcher(line);
        if (!parts.matches()) {
            throw new IllegalArgumentException("not a call: " + line);
        }
        String due = parts.group(3) == null ? "nothing" : parts.group(3).equals("throws") ? parts.group(4) : answer(parts.group(4));
        due(name, parts.group(1) + "(" + parts.group(2) + ")", answerOf(tree, parts.group(1), arguments(parts.group(2))), due);
        return this;
    }

    static void due(String name, String call, String got, String want) {
        done++;
        if (!got.equals(want)) {
            wrong++;
            System.out.println(name + ": " + call + " answered " + got + ", due is " + want);
        }
    }

    /** What a call answers: a number, true, false, nothing, or the name of what it throws. */
    static String answerOf(Object on, String method, Object[] arguments) {
        Method found = null;
        for (Method m : on.getClass().getDeclaredMethods()) {
            if (m.getName().equals(method) && m.getParameterCount() == arguments.length && !m.isSynthetic()) {
                found = m;
            }
        }
        if (found == null) {
            throw new IllegalArgumentException("no such method: " + method);
        }
        return answerOf(on, found, arguments);
    }

    static String answerOf(Object on, Method method, Object[] arguments) {
        try {
            Object got = method.invoke(on, arguments);
            return got == null ? "nothing" : got.toString();
        } catch (InvocationTargetException e) {
            return e.getCause().getClass().getSimpleName();
        } catch (IllegalAccessException e) {
            throw new IllegalStateException(e);
        }
    }

    static void end() {
        System.out.println(done + " calls, " + wrong + " not as due");
        if (wrong != 0 || done == 0) {
            System.exit(1);
        }
    }

    private static Object[] arguments(String text) {
        if (text.isEmpty()) {
            return new Object[0];
        }
        String[] words = text.split(", ");
        Object[] values = new Object[words.length];
        for (int i = 0; i < words.length; i++) {
            values[i] = value(words[i]);
        }
        return values;
    }

    private static String answer(String word) {
        return value(word).toString();
    }

    private static Object value(String word) {
        switch (word) {
            case "true": return true;
            case "false": return false;
            case "NONE": return CommitTree.NONE;
            case "REFUSED": return CommitTree.REFUSED;
            case "FULL": return CommitTree.FULL;
            case "LOST": return CommitTree.LOST;
            default: return Integer.decode(word);
        }
    }
}
