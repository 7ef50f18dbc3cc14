import java.io.IOException;
import java.lang.reflect.Constructor;
import java.lang.reflect.Field;
import java.lang.reflect.Method;
import java.lang.reflect.Modifier;
import java.nio.file.Files;
import java.nio.file.Path;
import java.util.Arrays;
import java.util.HashSet;
import java.util.Set;
import java.util.TreeSet;
import java.util.regex.Matcher;
import java.util.regex.Pattern;

/** The class keeps to what of LANGUAGE.md a program can see, and has the document's face and no more. */
public final class LanguageTest {
    private static final String[] FACE = {
        "about(int,int)int", "append(int,int,int)int", "back(int)int", "begin()int", "check(int)int", "commit(int)int", "count(int)int",
        "cut(int,int,int)int", "drop(int)int", "kind(int,int)int", "length(int,int)int", "list(int,int)int", "make(int,int,boolean)void",
        "mark(int)int", "move(int,int,int)boolean", "power(int)void", "read(int,int,int)int", "recover()int", "remove(int,int)boolean",
        "write(int,int,int,int)int",
    };
    private static final String[] FORBIDDEN = {
        "->", "::", "\\btry\\b", "\\bcatch\\b", "\\bfinally\\b", "\\bsynchronized\\b", "\\bassert\\b", "Exact\\(", "\\bstatic \\{", "\\bvar\\b",
        "\\bprotected\\b", "\\bMath\\.(?!max|min)", "\\bSystem\\b", "\\bObject\\b", "\\bfloat\\b", "\\bdouble\\b", "while \\(true\\)", "@\\w",
        "\\bpackage\\b", "\\bhashCode\\b", "\\btoString\\b", "\\bequals\\b",
    };
    private static final Set<String> THROWN = Set.of("IllegalStateException", "IllegalArgumentException", "IndexOutOfBoundsException",
        "UnsupportedOperationException", "NoSuchElementException");

    public static void main(String[] args) throws IOException {
        String source = Files.readString(Path.of("src/main/java/CommitTree.java"));
        text(source.replaceAll("(?s)/\\*.*?\\*/", "").replaceAll("//.*", "").replaceAll("\"[^\"]*\"", "\"\""));
        face();
        members(CommitTree.class);
        Class<?>[] inside = CommitTree.class.getDeclaredClasses();
        Run.due("rule 11", "at most twelve classes", String.valueOf(inside.length < 12), "true");
        for (Class<?> c : inside) {
            boolean hidden = (c.getModifiers() & (Modifier.PUBLIC | Modifier.PROTECTED)) == 0;
            Run.due("rule 1", c.getSimpleName() + " is hidden and static", String.valueOf(hidden && Modifier.isStatic(c.getModifiers())), "true");
            members(c);
        }
        Run.end();
    }

    private static void text(String source) {
        for (String word : FORBIDDEN) {
            Matcher found = Pattern.compile(word).matcher(source);
            Run.due("language", word, found.find() ? "line with " + found.group() : "none", "none");
        }
        Matcher imports = Pattern.compile("import ([\\w.]+);").matcher(source);
        while (imports.find()) {
            Run.due("rule 4", imports.group(), String.valueOf(Set.of("java.util.Arrays", "java.util.NoSuchElementException").contains(imports.group(1))), "true");
        }
        Matcher thrown = Pattern.compile("\\bthrow\\b(?! new (\\w+)\\(\"\"\\);)|\\bthrow new (\\w+)").matcher(source);
        while (thrown.find()) {
            Run.due("rule 6", thrown.group(), String.valueOf(THROWN.contains(String.valueOf(thrown.group(2)))), "true");
        }
        Matcher methods = Pattern.compile("(?m)^( +)(?:[\\w\\[\\]]+ )*(\\w+)\\([^;{]*\\{\\n(?s:.*?)\\n\\1\\}").matcher(source);
        while (methods.find()) {
            long lines = methods.group().lines().count();
            Run.due("rule 11", methods.group(2) + " is short", String.valueOf(lines <= 60), "true");
        }
    }

    private static void face() {
        Set<String> open = new TreeSet<>();
        Set<String> names = new HashSet<>();
        for (Method m : CommitTree.class.getDeclaredMethods()) {
            if (!Modifier.isPrivate(m.getModifiers())) {
                StringBuilder types = new StringBuilder();
                for (Class<?> p : m.getParameterTypes()) {
                    types.append(types.length() > 0 ? "," : "").append(p);
                }
                open.add(m.getName() + "(" + types + ")" + m.getReturnType());
                names.add(m.getName());
            }
        }
        Run.due("rule 1", "methods", open.toString(), new TreeSet<>(Arrays.asList(FACE)).toString());
        for (Method m : CommitTree.class.getDeclaredMethods()) {
            boolean twice = Modifier.isPrivate(m.getModifiers()) && names.contains(m.getName());
            Run.due("rule 1", "private " + m.getName(), String.valueOf(twice), "false");
        }
        Set<String> fields = new TreeSet<>();
        for (Field f : CommitTree.class.getDeclaredFields()) {
            if (!Modifier.isPrivate(f.getModifiers())) {
                fields.add(f.getName());
            }
        }
        Run.due("rule 1", "fields", fields.toString(), "[FULL, LOST, NONE, REFUSED]");
        Constructor<?>[] made = CommitTree.class.getDeclaredConstructors();
        Run.due("rule 1", "constructors", made.length + " " + made[0].getParameterCount() + " " + Modifier.isPublic(made[0].getModifiers()), "1 0 true");
        Run.due("rule 1", "final", String.valueOf(Modifier.isFinal(CommitTree.class.getModifiers())), "true");
        Run.due("constants", "NONE REFUSED FULL LOST", CommitTree.NONE + " " + CommitTree.REFUSED + " " + CommitTree.FULL + " " + CommitTree.LOST, "-1 -2 -3 -4");
    }

    private static void members(Class<?> c) {
        int own = 0;
        for (Field f : c.getDeclaredFields()) {
            if (Modifier.isStatic(f.getModifiers())) {
                Run.due("rule 5", c.getSimpleName() + "." + f.getName() + " is final", String.valueOf(Modifier.isFinal(f.getModifiers())), "true");
            } else {
                own++;
            }
        }
        Run.due("rule 11", c.getSimpleName() + " has few fields", String.valueOf(own <= 20), "true");
        for (Method m : c.getDeclaredMethods()) {
            Run.due("rule 11", m.getName() + " has few parameters", String.valueOf(m.getParameterCount() <= 7), "true");
        }
    }
}
