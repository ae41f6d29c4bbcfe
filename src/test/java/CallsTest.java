import java.io.IOException;
import java.io.PrintWriter;
import java.io.StringWriter;
import java.net.URISyntaxException;
import java.nio.file.Files;
import java.nio.file.Path;
import java.util.ArrayList;
import java.util.List;
import java.util.Map;
import java.util.Optional;
import java.util.Set;
import java.util.TreeMap;
import java.util.TreeSet;
import java.util.regex.Matcher;
import java.util.regex.Pattern;
import java.util.spi.ToolProvider;

/** LANGUAGE.md, rules 4, 8 and 11, by the calls that stand in the compiled class. */
public final class CallsTest {
    private static final int DEEPEST = 8;
    private static final Set<String> LIBRARY = Set.of("java/lang/Object.<init>", "java/lang/String.length", "java/lang/String.charAt",
        "java/lang/String.indexOf", "java/lang/Math.max", "java/lang/Math.min", "java/lang/Math.abs", "java/lang/Integer.bitCount",
        "java/lang/System.arraycopy", "java/util/Arrays.fill", "java/util/Arrays.copyOf");
    private static final Pattern TYPE = Pattern.compile("^(?:\\w+ )*class (\\S+).*\\{$");
    private static final Pattern METHOD = Pattern.compile("^  (?:\\S.* )?([\\w$]+)\\((.*)\\);$");
    private static final Pattern INVOKED = Pattern.compile("\\binvoke\\w+ .*// (?:Interface)?Method ([^:]+):");

    private static final Map<String, Set<String>> CALLS = new TreeMap<>();
    private static final Map<String, Integer> DEPTHS = new TreeMap<>();
    private static int wrong = 0;

    public static void main(String[] args) throws IOException, URISyntaxException {
        Optional<ToolProvider> javap = ToolProvider.findFirst("javap");
        if (javap.isEmpty()) {
            System.out.println("no javap here: the calls are not looked at");
            return;
        }
        readCalls(disassembled(javap.get()));
        if (CALLS.size() < 49) fault("only " + CALLS.size() + " methods were found");
        for (String method : CALLS.keySet()) {
            int depth = depthOf(method, new ArrayList<>());
            if (depth > DEEPEST) fault(method + " goes " + depth + " deep");
        }
        System.out.println(wrong == 0 ? CALLS.size() + " methods, at most " + deepest() + " deep" : wrong + " faults");
        if (wrong != 0) System.exit(1);
    }

    private static void fault(String what) {
        wrong++;
        System.out.println(what);
    }

    private static int deepest() {
        return DEPTHS.values().stream().mapToInt(d -> d).max().orElse(0);
    }

    private static String disassembled(ToolProvider javap) throws IOException, URISyntaxException {
        Path home = Path.of(LineMaking.class.getProtectionDomain().getCodeSource().getLocation().toURI());
        List<String> options = new ArrayList<>(List.of("-p", "-c"));
        try (var files = Files.list(home)) {
            files.filter(f -> f.getFileName().toString().matches("LineMaking(\\$.*)?\\.class")).map(Path::toString).forEach(options::add);
        }
        StringWriter text = new StringWriter();
        PrintWriter out = new PrintWriter(text);
        if (javap.run(out, out, options.toArray(new String[0])) != 0) fault("javap did not read the classes");
        return text.toString();
    }

    /** A method is told by its class and name: no class has two of one name. */
    private static void readCalls(String text) {
        String type = "", method = "";
        for (String line : text.split("\\R")) {
            Matcher head = TYPE.matcher(line), declared = METHOD.matcher(line), invoked = INVOKED.matcher(line);
            if (head.matches()) {
                type = head.group(1);
            } else if (declared.matches()) {
                method = type + "." + (declared.group(1).equals(type) ? "<init>" : declared.group(1));
                if (CALLS.put(method, new TreeSet<>()) != null) fault(method + " stands twice");
            } else if (invoked.find()) {
                String called = invoked.group(1).replace("\"", "");
                CALLS.get(method).add(called.contains(".") ? called : type + "." + called);
            }
        }
    }

    private static int depthOf(String method, List<String> open) {
        if (DEPTHS.containsKey(method)) return DEPTHS.get(method);
        if (open.contains(method)) {
            fault("a ring of calls: " + open + " " + method);
            return 0;
        }
        if (!CALLS.containsKey(method)) {
            if (!LIBRARY.contains(method)) fault("call of " + method);
            return 1;
        }
        open.add(method);
        int below = 0;
        for (String called : CALLS.get(method)) below = Math.max(below, depthOf(called, open));
        open.remove(open.size() - 1);
        DEPTHS.put(method, below + 1);
        return below + 1;
    }
}
