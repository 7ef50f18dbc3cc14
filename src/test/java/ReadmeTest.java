import java.io.IOException;
import java.nio.file.Files;
import java.nio.file.Path;
import java.util.LinkedHashMap;
import java.util.Map;
import java.util.regex.Matcher;
import java.util.regex.Pattern;

/** The example of README.md: each call answers what the comment beside it begins with. */
public final class ReadmeTest {
    private static final Pattern EXAMPLE = Pattern.compile("(?s)```java\\n(.*?)```");
    private static final Pattern CALL = Pattern.compile("(?:(?:int )?(\\w+) = )?x\\.(\\w+)\\((.*)\\); +// (.*)");
    private static final Pattern ANSWER = Pattern.compile("(-?\\d+|true|false|REFUSED|FULL|LOST)\\b.*");
    private static final String MADE = "CommitTree x = new CommitTree();";

    public static void main(String[] args) throws IOException {
        String readme = Files.readString(Path.of("README.md"));
        Run.due("README", "names the command that runs the tests", String.valueOf(readme.contains("\n    .ci/run\n")), "true");
        Run.due("README", "and it can be run", String.valueOf(Files.isExecutable(Path.of(".ci/run"))), "true");
        Matcher example = EXAMPLE.matcher(readme);
        Run.due("README", "has an example", String.valueOf(example.find()), "true");
        follow(example.group(1));
        Run.end();
    }

    private static void follow(String example) {
        Run run = new Run("README");
        Map<String, String> variables = new LinkedHashMap<>();
        variables.put("CommitTree.NONE", "NONE");
        for (String line : example.split("\n")) {
            if (!line.isBlank() && !line.equals(MADE)) {
                run.call(asOfARun(line, variables));
            }
        }
    }

    private static String asOfARun(String line, Map<String, String> variables) {
        Matcher call = CALL.matcher(line);
        if (!call.matches()) {
            throw new IllegalArgumentException("not a call with a comment: " + line);
        }
        String arguments = call.group(3);
        for (Map.Entry<String, String> variable : variables.entrySet()) {
            arguments = arguments.replaceAll("(?<![\\w.])" + Pattern.quote(variable.getKey()) + "\\b", variable.getValue());
        }
        Matcher answer = ANSWER.matcher(call.group(4));
        if (!answer.matches()) {
            return call.group(2) + "(" + arguments + ")";
        }
        if (call.group(1) != null) {
            variables.put(call.group(1), answer.group(1));
        }
        return call.group(2) + "(" + arguments + ") = " + answer.group(1);
    }
}
