import java.io.PrintWriter;
import java.io.StringWriter;
import java.net.URISyntaxException;
import java.nio.file.Files;
import java.nio.file.Path;
import java.util.ArrayDeque;
import java.util.ArrayList;
import java.util.Deque;
import java.util.HashSet;
import java.util.List;
import java.util.Map;
import java.util.Set;
import java.util.TreeMap;
import java.util.TreeSet;
import java.util.regex.Matcher;
import java.util.regex.Pattern;
import java.util.spi.ToolProvider;

/** Calls of the class's own methods go at most eight deep, each of a recursion counted once; those are private. */
public final class DepthTest {
    private static final int MOST_DEEP = 8;
    private static final Pattern CLASS = Pattern.compile("^.*class (CryptBank[\\w$]*).*\\{$");
    private static final Pattern METHOD = Pattern.compile("^  [\\w ,.\\[\\]$]*?([\\w$]+)\\(.*\\).*;$");
    private static final Pattern CALL = Pattern.compile("invoke\\w+ .*// Method (?:(CryptBank[\\w$]*)\\.)?(\\w+):");

    private static final Map<String, Set<String>> CALLS = new TreeMap<>();
    private static final Set<String> FACE = new TreeSet<>();
    private static final Set<String> PRIVATE = new TreeSet<>();

    private DepthTest() {
    }

    public static void main(String[] args) throws Exception {
        read(disassembled());
        Kit.part("depth");
        Kit.due("methods of the face", FACE.size(), 40);
        List<String> deepest = new ArrayList<>();
        for (String method : FACE) {
            List<String> chain = longest(method, new HashSet<>());
            if (chain.size() > deepest.size()) {
                deepest = chain;
            }
            Kit.due("depth of " + chain, chain.size() <= MOST_DEEP, true);
        }
        System.out.println("the deepest: " + deepest);
        recursions();
        Kit.end();
    }

    /** LANGUAGE.md, rule 8: what calls itself, straight or through others, is private. */
    private static void recursions() {
        Kit.part("recursion");
        int seen = 0;
        for (String method : CALLS.keySet()) {
            if (reached(method).contains(method)) {
                seen++;
                Kit.due("private: " + method, PRIVATE.contains(method), true);
            }
        }
        Kit.due("methods of recursions are found", seen > 0, true);
    }

    private static Set<String> reached(String from) {
        Set<String> seen = new TreeSet<>();
        Deque<String> open = new ArrayDeque<>(CALLS.get(from));
        while (!open.isEmpty()) {
            String method = open.remove();
            if (seen.add(method)) {
                open.addAll(CALLS.getOrDefault(method, Set.of()));
            }
        }
        return seen;
    }

    private static String disassembled() throws Exception {
        ToolProvider javap = ToolProvider.findFirst("javap").orElseThrow();
        StringWriter out = new StringWriter();
        for (Path file : classes()) {
            javap.run(new PrintWriter(out), new PrintWriter(out), "-c", "-p", file.toString());
        }
        return out.toString();
    }

    private static List<Path> classes() throws URISyntaxException, java.io.IOException {
        Path folder = Path.of(CryptBank.class.getProtectionDomain().getCodeSource().getLocation().toURI());
        try (var files = Files.list(folder)) {
            return files.filter(f -> f.getFileName().toString().matches("CryptBank(\\$\\w+)?\\.class")).sorted().toList();
        }
    }

    private static void read(String text) {
        String owner = "";
        String method = "";
        for (String line : text.split("\n")) {
            Matcher type = CLASS.matcher(line);
            Matcher start = METHOD.matcher(line);
            Matcher call = CALL.matcher(line);
            if (type.matches()) {
                owner = type.group(1);
            } else if (start.matches()) {
                method = owner + "." + start.group(1);
                CALLS.putIfAbsent(method, new TreeSet<>());
                if (line.startsWith("  private ")) {
                    PRIVATE.add(method);
                }
                if (line.startsWith("  public ") && !start.group(1).equals("CryptBank")) {
                    FACE.add(method);
                }
            } else if (call.find()) {
                CALLS.get(method).add((call.group(1) == null ? owner : call.group(1)) + "." + call.group(2));
            }
        }
    }

    private static List<String> longest(String method, Set<String> open) {
        List<String> best = new ArrayList<>();
        open.add(method);
        for (String called : CALLS.getOrDefault(method, Set.of())) {
            if (!open.contains(called)) {
                List<String> chain = longest(called, open);
                best = chain.size() > best.size() ? chain : best;
            }
        }
        open.remove(method);
        best = new ArrayList<>(best);
        best.add(0, method);
        return best;
    }
}
