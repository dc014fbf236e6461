import java.io.IOException;
import java.nio.file.Files;
import java.nio.file.Path;
import java.util.HashMap;
import java.util.HashSet;
import java.util.List;
import java.util.Map;
import java.util.Set;
import java.util.regex.Matcher;
import java.util.regex.Pattern;

/** Those rules of LANGUAGE.md that can be seen in the words of the source. Runs in the project's directory. */
final class SourceRulesTest {
    private static final String[] FORBIDDEN = {
        "\\bthrow\\b", "\\bthrows\\b", "\\btry\\b", "\\bcatch\\b", "\\bsynchronized\\b", "\\bassert\\b", "\\bimport\\b", "\\bpackage\\b",
        "\\bprotected\\b", "->", "::", "\\bSystem\\b", "\\bThread\\b", "\\bRandom\\b", "\\bhashCode\\b", "\\btoString\\b", "\\w+Exact\\b",
        "while \\(true\\)", "for \\(;;\\)",
    };

    public static void main(String[] args) throws IOException {
        List<String> lines = Files.readAllLines(Path.of("src/main/java/WindowPlan.java"));
        for (int i = 0; i < lines.size(); i++) {
            String code = lines.get(i).replaceAll("//.*", "");
            for (String word : FORBIDDEN) {
                Matcher matcher = Pattern.compile(word).matcher(code);
                Check.due("line " + (i + 1) + " has " + word, matcher.find() ? 1 : 0, 0);
            }
            Check.due("line " + (i + 1) + " has other characters", lines.get(i).matches("[ -~]*") ? 1 : 0, 1);
        }
        methodsAreShort(lines);
        nothingIsMadeOutsideOfConstructors(lines);
        callsAreNotDeep(lines);
        Check.end();
    }

    private static boolean beginsMethod(String line) {
        return line.matches(" {4,8}[\\w\\[\\] ]+\\(.*\\) \\{") && !line.matches(" *(if|for|while|switch|else) .*");
    }

    private static void methodsAreShort(List<String> lines) {
        int begin = -1;
        for (int i = 0; i < lines.size(); i++) {
            String line = lines.get(i);
            if (beginsMethod(line)) {
                begin = i;
                int parameters = line.replaceAll("[^,]", "").length() + 1;
                Check.due("line " + (i + 1) + " has at most seven parameters", parameters <= 7 ? 1 : 0, 1);
            } else if (begin >= 0 && line.matches(" {4,8}\\}")) {
                Check.due("line " + (begin + 1) + " begins a short method", i - begin <= 60 ? 1 : 0, 1);
            }
        }
    }

    /** The room for all calls is small: only fields and the constructor make objects and arrays. */
    private static void nothingIsMadeOutsideOfConstructors(List<String> lines) {
        boolean inConstructor = false;
        for (int i = 0; i < lines.size(); i++) {
            String line = lines.get(i);
            if (line.startsWith("    public WindowPlan()")) {
                inConstructor = true;
            } else if (line.equals("    }")) {
                inConstructor = false;
            }
            boolean isField = line.matches(" {8}final .* = new .*;");
            boolean makes = line.replaceAll("//.*", "").matches(".*\\bnew\\b.*");
            Check.due("line " + (i + 1) + " makes an object", makes && !inConstructor && !isField ? 1 : 0, 0);
        }
    }

    /** Calls go at most eight deep and none comes back to itself; methods of one name are taken as one. */
    private static void callsAreNotDeep(List<String> lines) {
        Map<String, Set<String>> calls = new HashMap<>();
        String method = "";
        for (String line : lines) {
            boolean begins = beginsMethod(line);
            Matcher names = Pattern.compile("\\b(\\w+)\\(").matcher(line.replaceAll("//.*", ""));
            while (names.find()) {
                if (begins) {
                    method = names.group(1);
                    calls.putIfAbsent(method, new HashSet<>());
                } else {
                    calls.computeIfAbsent(method, name -> new HashSet<>()).add(names.group(1));
                }
            }
        }
        Check.due("the search sees the calls of run", calls.get("run").contains("tick") ? 1 : 0, 1);
        for (String name : calls.keySet()) {
            Check.due("calls of " + name + " go at most eight deep", depth(calls, name, 1) <= 8 ? 1 : 0, 1);
        }
    }

    private static int depth(Map<String, Set<String>> calls, String method, int open) {
        int deepest = open;
        if (open <= 8) {
            for (String called : calls.get(method)) {
                if (calls.containsKey(called)) {
                    deepest = Math.max(deepest, depth(calls, called, open + 1));
                }
            }
        }
        return deepest;
    }
}
