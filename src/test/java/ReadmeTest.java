import java.io.IOException;
import java.lang.reflect.Method;
import java.lang.reflect.Modifier;
import java.nio.file.Files;
import java.nio.file.Path;
import java.util.ArrayList;
import java.util.List;
import java.util.Set;
import java.util.TreeSet;
import java.util.regex.Matcher;
import java.util.regex.Pattern;
import java.util.stream.Stream;
import javax.tools.ToolProvider;

/** What README.md says is so: its program prints what it says, the calls and tests that it names are all there are. */
public final class ReadmeTest {
    private static final Pattern PROGRAM = Pattern.compile("```java\n(.*?)```", Pattern.DOTALL);
    private static final Pattern PRINTED = Pattern.compile("System\\.out\\.println\\((.*)\\);\\s*// (-?\\d+)");
    private static final Pattern CALL = Pattern.compile("`(\\w+)\\([\\w, ]*\\)`");
    private static final Pattern TEST = Pattern.compile("`(\\w+Test)`");

    public static void main(String[] args) throws Exception {
        String page = Files.readString(Path.of("README.md"));
        program(page);
        Check.isTrue("calls that it names", named(page, CALL).equals(face()));
        Check.isTrue("tests that it names", named(page, TEST).equals(tests()));
        Check.end();
    }

    private static void program(String page) throws Exception {
        Matcher found = PROGRAM.matcher(page);
        Check.isTrue("there is a program", found.find());
        String program = found.group(1);
        List<String> printed = run(program);
        int line = 0;
        Matcher due = PRINTED.matcher(program);
        while (due.find()) {
            String got = line < printed.size() ? printed.get(line) : "nothing";
            Check.isTrue(due.group(1) + " printed " + got + ", the page says " + due.group(2), got.equals(due.group(2)));
            line++;
        }
        Check.isTrue("it prints", line > 0);
        Check.due("lines it printed", printed.size(), line);
    }

    private static List<String> run(String program) throws Exception {
        Path room = Files.createTempDirectory("readme");
        try {
            Path source = Files.writeString(room.resolve("Example.java"), program);
            String classes = System.getProperty("java.class.path");
            int compiled = ToolProvider.getSystemJavaCompiler()
                    .run(null, null, null, "-cp", classes, "-d", room.toString(), source.toString());
            Check.due("it compiles", compiled, 0);
            String java = Path.of(System.getProperty("java.home"), "bin", "java").toString();
            String both = classes + System.getProperty("path.separator") + room;
            Process process = new ProcessBuilder(java, "-cp", both, "Example").redirectErrorStream(true).start();
            List<String> lines = new String(process.getInputStream().readAllBytes()).lines().toList();
            Check.due("it ends", process.waitFor(), 0);
            return lines;
        } finally {
            remove(room);
        }
    }

    private static void remove(Path room) throws IOException {
        List<Path> inside = new ArrayList<>();
        try (Stream<Path> files = Files.list(room)) {
            files.forEach(inside::add);
        }
        for (Path file : inside) {
            Files.delete(file);
        }
        Files.delete(room);
    }

    private static Set<String> named(String page, Pattern what) {
        Set<String> names = new TreeSet<>();
        Matcher found = what.matcher(page);
        while (found.find()) {
            names.add(found.group(1));
        }
        return names;
    }

    private static Set<String> face() {
        Set<String> names = new TreeSet<>();
        for (Method m : RingWaters.class.getDeclaredMethods()) {
            if (Modifier.isPublic(m.getModifiers())) {
                names.add(m.getName());
            }
        }
        return names;
    }

    private static Set<String> tests() throws IOException {
        try (Stream<Path> files = Files.list(Path.of("src/test/java"))) {
            Set<String> names = new TreeSet<>();
            files.map(f -> f.getFileName().toString()).filter(f -> f.endsWith("Test.java"))
                    .forEach(f -> names.add(f.substring(0, f.length() - ".java".length())));
            return names;
        }
    }
}
