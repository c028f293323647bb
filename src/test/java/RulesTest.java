import java.io.IOException;
import java.nio.file.Files;
import java.nio.file.Path;
import java.util.HashMap;
import java.util.List;
import java.util.Map;
import java.util.Set;
import java.util.TreeSet;
import java.util.regex.Matcher;
import java.util.regex.Pattern;

/** What of LANGUAGE.md can be seen in the text of the class. */
public final class RulesTest {
    private static final Path SOURCE = Path.of("src/main/java/RingWaters.java");
    private static final Pattern METHOD =
            Pattern.compile("^( {4}| {8})(?:[a-z]+ )*(?:int|long|boolean|void) (\\w+)\\((.*)\\)(?: throws \\w+)? \\{$");
    private static final Pattern CALL = Pattern.compile("(\\w+)\\(");
    private static final Pattern MADE = Pattern.compile(
            "^\\s*(private )?(final )?[\\w\\[\\]]+ \\w+ = new .*|^\\s*\\w+ = new \\w+\\(\\);|^\\s*throw new NoSuchElementException\\(\\);");

    private static final Map<String, Set<String>> calls = new HashMap<>();

    public static void main(String[] args) throws IOException {
        List<String> lines = Files.readAllLines(SOURCE);
        words(lines);
        methods(lines);
        for (String name : calls.keySet()) {
            int deep = depth(name, 1);
            Check.isTrue(name + " goes " + deep + " deep", deep <= 8);
        }
        Check.isTrue("methods were seen", calls.size() > 100);
        Check.end();
    }

    private static void words(List<String> lines) {
        int classes = 0;
        for (String line : lines) {
            String code = line.replaceAll("^\\s*(/?\\*.*|//.*)", "");
            if (code.startsWith("import")) {
                Check.isTrue(code, Set.of("import java.util.Arrays;", "import java.util.NoSuchElementException;").contains(code));
            }
            for (String none : List.of("->", "::", "Exact", "synchronized", "finally", "assert", "@", "static {", "catch",
                    "double", "float", "System.out", "package ", "String")) {
                Check.isTrue(none + " in " + line, !code.contains(none));
            }
            if (code.contains("new ")) {
                Check.isTrue("made in a call: " + line, MADE.matcher(code).matches());
            }
            classes += code.contains(" class ") ? 1 : 0;
            Check.isTrue("signs of " + line, line.chars().allMatch(c -> c >= 32 && c < 127));
        }
        Check.isTrue(classes + " classes", classes <= 12);
    }

    private static void methods(List<String> lines) {
        for (int i = 0; i < lines.size(); i++) {
            Matcher m = METHOD.matcher(lines.get(i));
            if (!m.matches()) {
                continue;
            }
            int end = i;
            Set<String> called = calls.computeIfAbsent(m.group(2), k -> new TreeSet<>());
            for (end = i + 1; !lines.get(end).equals(m.group(1) + "}"); end++) {
                Matcher c = CALL.matcher(lines.get(end));
                while (c.find()) {
                    called.add(c.group(1));
                }
            }
            Check.isTrue(m.group(2) + " has " + (end - i) + " lines", end - i <= 60);
            Check.isTrue(m.group(2) + " takes " + m.group(3), m.group(3).split(",").length <= 7);
        }
    }

    /** How many calls stand open at once below one, itself counted; recursion would never end, so it ends at 50. */
    private static int depth(String name, int above) {
        int deepest = 1;
        if (above < 50) {
            for (String called : calls.get(name)) {
                if (calls.containsKey(called)) {
                    deepest = Math.max(deepest, 1 + depth(called, above + 1));
                }
            }
        }
        return deepest;
    }
}
