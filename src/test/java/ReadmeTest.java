import java.io.IOException;
import java.lang.reflect.Method;
import java.lang.reflect.Modifier;
import java.net.URL;
import java.net.URLClassLoader;
import java.nio.file.Files;
import java.nio.file.Path;
import java.util.ArrayList;
import java.util.List;
import java.util.TreeSet;
import java.util.regex.Matcher;
import java.util.regex.Pattern;
import java.util.spi.ToolProvider;
import java.util.stream.Collectors;

/** The calls that README.md shows are compiled and made: they answer what stands beside them. */
public final class ReadmeTest {
    private static final Pattern SHOWN = Pattern.compile("(bank\\..*);\\s+// (-?\\d+|true|false|throws \\w+): .+");
    private static final Pattern BLOCK = Pattern.compile("(?s)```java\n(.*?)```");
    private static final Pattern TEST_ROW = Pattern.compile("(?m)^\\| `(\\w+Test)` \\|");

    private ReadmeTest() {
    }

    public static void main(String[] args) throws Exception {
        Path here = Path.of(args.length > 0 ? args[0] : ".");
        String readme = Files.readString(here.resolve("README.md"));
        Kit.part("README.md");
        calls(readme);
        everyMethodIsShown(readme);
        testsAreNamed(readme, here.resolve("src/test/java"));
        Kit.end();
    }

    /** Each row that comes back is a line's call, what it answered, and what README.md says. */
    private static void calls(String readme) throws Exception {
        StringBuilder helpers = new StringBuilder();
        StringBuilder lines = new StringBuilder();
        int shown = 0;
        for (Matcher block = BLOCK.matcher(readme); block.find();) {
            if (block.group(1).contains("static ")) {
                helpers.append(block.group(1));
                continue;
            }
            for (String line : block.group(1).split("\n")) {
                Matcher call = SHOWN.matcher(line);
                boolean answered = call.matches();
                Kit.due("stands with its answer: " + line, answered || !line.startsWith("bank."), true);
                lines.append(answered ? asked(call.group(1), call.group(2)) : line).append('\n');
                shown += answered ? 1 : 0;
            }
        }
        List<String[]> rows = run(source(helpers, lines));
        Kit.due("calls that were made", rows.size(), shown);
        for (String[] row : rows) {
            Kit.same(row[0], row[1], row[2]);
        }
    }

    private static String asked(String call, String answer) {
        String words = call.replace("\\", "\\\\").replace("\"", "\\\"");
        return "try { add(\"" + words + "\", \"\" + " + call + ", \"" + answer + "\"); }"
                + " catch (RuntimeException e) { add(\"" + words + "\", \"throws \" + e.getClass().getSimpleName(), \""
                + answer + "\"); }";
    }

    private static String source(CharSequence helpers, CharSequence lines) {
        return "public final class Shown {\n"
                + "static java.util.List<String[]> rows = new java.util.ArrayList<>();\n"
                + "static void add(String call, String got, String want) { rows.add(new String[] {call, got, want}); }\n"
                + helpers
                + "public static java.util.List<String[]> show() {\n" + lines + "return rows;\n}\n}\n";
    }

    @SuppressWarnings("unchecked")
    private static List<String[]> run(String source) throws Exception {
        Path folder = Files.createTempDirectory("shown");
        Path file = folder.resolve("Shown.java");
        Files.writeString(file, source);
        URL classes = CryptBank.class.getProtectionDomain().getCodeSource().getLocation();
        int failed = ToolProvider.findFirst("javac").orElseThrow().run(System.out, System.out, "--release", "17",
                "-cp", Path.of(classes.toURI()).toString(), "-d", folder.toString(), file.toString());
        Kit.due("what is shown compiles", failed, 0);
        List<String[]> rows = new ArrayList<>();
        if (failed == 0) {
            try (URLClassLoader loader = new URLClassLoader(new URL[] {folder.toUri().toURL()})) {
                rows.addAll((List<String[]>) loader.loadClass("Shown").getMethod("show").invoke(null));
            }
        }
        delete(folder);
        return rows;
    }

    private static void delete(Path folder) throws IOException {
        List<Path> files;
        try (var listed = Files.list(folder)) {
            files = listed.toList();
        }
        for (Path file : files) {
            Files.delete(file);
        }
        Files.delete(folder);
    }

    private static void everyMethodIsShown(String readme) {
        String shown = BLOCK.matcher(readme).results().map(block -> block.group(1)).collect(Collectors.joining());
        for (Method method : CryptBank.class.getDeclaredMethods()) {
            if (Modifier.isPublic(method.getModifiers())) {
                Kit.due("shown: " + method.getName(), shown.contains("bank." + method.getName() + "("), true);
            }
        }
    }

    private static void testsAreNamed(String readme, Path folder) throws IOException {
        TreeSet<String> named = TEST_ROW.matcher(readme).results().map(row -> row.group(1))
                .collect(Collectors.toCollection(TreeSet::new));
        TreeSet<String> there;
        try (var files = Files.list(folder)) {
            there = files.map(file -> file.getFileName().toString()).filter(name -> name.endsWith("Test.java"))
                    .map(name -> name.replace(".java", "")).collect(Collectors.toCollection(TreeSet::new));
        }
        Kit.same("the tests that README.md names", named.toString(), there.toString());
    }
}
