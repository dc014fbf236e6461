import java.io.IOException;
import java.nio.file.Files;
import java.nio.file.Path;
import java.util.Arrays;
import java.util.HashMap;
import java.util.List;
import java.util.Map;
import java.util.regex.Matcher;
import java.util.regex.Pattern;

/**
 * The example in README.md answers what its comments say (promises 2 to 8, 10 and 13). The calls are read from the
 * file itself, so that the two can't drift apart. Runs in the project's directory.
 */
final class ReadmeTest {
    private static final Pattern CALL = Pattern.compile("(?:int (\\w+) = )?plan\\.(\\w+)\\(([^)]*)\\); *// (-?\\d+)(?::.*)?");

    private final WindowPlan plan = new WindowPlan();
    private final Map<String, Integer> names = new HashMap<>();
    private int calls;

    public static void main(String[] args) throws IOException {
        ReadmeTest test = new ReadmeTest();
        List<String> lines = Files.readAllLines(Path.of("README.md"));
        int begin = lines.indexOf("```java");
        int end = begin + lines.subList(begin, lines.size()).indexOf("```");
        for (String line : lines.subList(begin + 1, end)) {
            if (!line.isEmpty() && !line.equals("WindowPlan plan = new WindowPlan();")) {
                test.oneLine(line);
            }
        }
        Check.due("calls in the example", test.calls > 20 ? 1 : 0, 1);
        Check.end();
    }

    private void oneLine(String line) {
        Matcher matcher = CALL.matcher(line);
        boolean isCall = matcher.matches();
        Check.due("is a call with its answer: " + line, isCall ? 1 : 0, 1);
        if (!isCall) {
            return;
        }
        calls++;
        int[] numbers = new int[4];
        String[] arguments = matcher.group(3).split(", ");
        for (int i = 0; i < arguments.length; i++) {
            numbers[i] = names.containsKey(arguments[i]) ? names.get(arguments[i]) : Integer.parseInt(arguments[i]);
        }
        int method = Arrays.asList(Model.NAMES).indexOf(matcher.group(2));
        int got = Model.call(plan, method, numbers[0], numbers[1], numbers[2], numbers[3]);
        Check.due(line, got, Integer.parseInt(matcher.group(4)));
        if (matcher.group(1) != null) {
            names.put(matcher.group(1), got);
        }
    }
}
