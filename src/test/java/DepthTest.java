import java.io.PrintWriter;
import java.io.StringWriter;
import java.nio.file.Path;
import java.util.HashMap;
import java.util.HashSet;
import java.util.LinkedHashSet;
import java.util.Map;
import java.util.Set;
import java.util.TreeMap;
import java.util.regex.Matcher;
import java.util.regex.Pattern;
import java.util.spi.ToolProvider;

/**
 * How deep calls go (LANGUAGE.md, rules 8 and 11), as the compiled class tells: calls that are no recursion go at
 * most eight deep, and only those methods come to themselves again that carry a depth.
 */
public final class DepthTest {
    private static final int MOST = 8;
    // sayPath and sayNeighbours call one another; the depth is told by both.
    private static final Set<String> RECURSIVE = Set.of("Equalbook$Terms.makeParts", "Equalbook$Terms.isPut",
            "Equalbook$Terms.writePart", "Equalbook$Finder.sayPath", "Equalbook$Finder.sayNeighbours");

    private final Map<String, Set<String>> called = new TreeMap<>();
    private int wrong;

    private DepthTest() {
    }

    public static void main(String[] args) throws Exception {
        DepthTest test = new DepthTest();
        test.readAll(Path.of(Equalbook.class.getProtectionDomain().getCodeSource().getLocation().toURI()));
        test.checkAll();
        System.out.println("DepthTest: " + test.called.size() + " methods, " + test.wrong + " wrong");
        if (test.wrong > 0) {
            System.exit(1);
        }
    }

    private void readAll(Path folder) {
        ToolProvider disassembler = ToolProvider.findFirst("javap").orElse(null);
        if (disassembler == null) {
            System.out.println("DepthTest: there is no javap here, so the depth is not looked at");
            return;
        }
        read(disassembler, folder, "Equalbook");
        for (Class<?> inner : Equalbook.class.getDeclaredClasses()) {
            read(disassembler, folder, inner.getName());
        }
        ask(called.size() > 100, "there are more than 100 methods, but " + called.size());
    }

    private void read(ToolProvider disassembler, Path folder, String name) {
        StringWriter text = new StringWriter();
        disassembler.run(new PrintWriter(text, true), new PrintWriter(text, true),
                "-c", "-p", folder.resolve(name + ".class").toString());
        Pattern head = Pattern.compile("^  \\S.*?([\\w$]+)\\(.*\\).*;$");
        Pattern call = Pattern.compile("// Method (?:([\\w$/]+)\\.)?(\\w+):");
        Set<String> calls = null;
        for (String line : text.toString().split("\\R")) {
            Matcher method = head.matcher(line);
            Matcher found = call.matcher(line);
            if (method.matches()) {
                calls = called.computeIfAbsent(name + "." + method.group(1), key -> new HashSet<>());
            } else if (calls != null && found.find()) {
                calls.add((found.group(1) == null ? name : found.group(1)) + "." + found.group(2));
            }
        }
    }

    private void checkAll() {
        Map<String, Integer> depths = new HashMap<>();
        for (String method : called.keySet()) {
            int depth = depthOf(method, new LinkedHashSet<>(), depths);
            ask(depth <= MOST, method + " goes " + depth + " deep");
        }
    }

    /** How many methods stand open at once, at most; what is open already is come to by recursion alone. */
    private int depthOf(String method, Set<String> open, Map<String, Integer> depths) {
        if (depths.containsKey(method)) {
            return depths.get(method);
        }
        open.add(method);
        int deepest = 0;
        for (String next : called.get(method)) {
            if (open.contains(next)) {
                ask(RECURSIVE.contains(next), next + " comes to itself again");
            } else if (called.containsKey(next)) {
                deepest = Math.max(deepest, depthOf(next, open, depths));
            }
        }
        open.remove(method);
        // Below a method that comes to itself again the depth hangs on where the way began.
        if (!RECURSIVE.contains(method)) {
            depths.put(method, deepest + 1);
        }
        return deepest + 1;
    }

    private void ask(boolean isSo, String what) {
        if (!isSo) {
            wrong++;
            System.out.println("DepthTest: " + what);
        }
    }
}
