import java.io.PrintWriter;
import java.io.StringWriter;
import java.nio.file.Files;
import java.nio.file.Path;
import java.util.ArrayList;
import java.util.HashMap;
import java.util.HashSet;
import java.util.List;
import java.util.Map;
import java.util.Set;
import java.util.TreeMap;
import java.util.TreeSet;
import java.util.regex.Matcher;
import java.util.regex.Pattern;
import java.util.spi.ToolProvider;
import java.util.stream.Stream;

/** Which methods of the class call which, read from its class files, and how deep that goes. */
final class CallDepth {
    private static final Pattern METHOD = Pattern.compile("^  (?:[\\w\\[\\]$.]+ )*([\\w$.]+)\\((.*)\\);$");
    private static final Pattern CALL = Pattern.compile("invoke\\w+ .*// Method (?:([\\w$]+)\\.)?\"?([\\w<>$]+)\"?:\\((.*?)\\)");

    private final Map<String, Set<String>> calls = new TreeMap<>();
    private final Map<String, Set<String>> reached = new HashMap<>();
    private final Map<String, Integer> depths = new HashMap<>();

    /** Reads the class files with javap; without such a tool nothing is read. */
    CallDepth(Path classes) throws java.io.IOException {
        ToolProvider javap = ToolProvider.findFirst("javap").orElse(null);
        if (javap == null) return;
        try (Stream<Path> files = Files.list(classes)) {
            for (Path file : files.filter(f -> f.getFileName().toString().matches("PastTheRim(\\$\\w+)?\\.class")).toList()) {
                StringWriter out = new StringWriter();
                PrintWriter to = new PrintWriter(out);
                javap.run(to, to, "-p", "-c", file.toString());
                read(file.getFileName().toString().replace(".class", ""), out.toString());
            }
        }
        for (String method : calls.keySet()) reached.put(method, reachedFrom(method));
    }

    private void read(String type, String code) {
        String method = null;
        for (String row : code.split("\n")) {
            Matcher m = METHOD.matcher(row);
            if (m.matches()) {
                String name = m.group(1).equals(type) ? "<init>" : m.group(1);
                int parameters = m.group(2).isEmpty() ? 0 : m.group(2).split(",").length;
                method = type + "." + name + "/" + parameters;
                calls.put(method, new TreeSet<>());
            }
            Matcher c = CALL.matcher(row);
            if (method != null && c.find()) {
                String of = c.group(1) == null ? type : c.group(1);
                if (of.startsWith("PastTheRim")) calls.get(method).add(of + "." + c.group(2) + "/" + parametersOf(c.group(3)));
            }
        }
    }

    private static int parametersOf(String signature) {
        return signature.replaceAll("\\[*(L[^;]*;|[A-Z])", "p").length();
    }

    private Set<String> reachedFrom(String method) {
        Set<String> all = new HashSet<>();
        List<String> left = new ArrayList<>(List.of(method));
        while (!left.isEmpty()) {
            for (String next : calls.getOrDefault(left.remove(left.size() - 1), Set.of())) if (all.add(next)) left.add(next);
        }
        return all;
    }

    Set<String> methods() {
        return calls.keySet();
    }

    /** Calls that name no method that was read: then something was read wrongly. */
    Set<String> unknown() {
        Set<String> unknown = new TreeSet<>();
        for (Set<String> to : calls.values()) for (String call : to) if (!calls.containsKey(call)) unknown.add(call);
        return unknown;
    }

    private boolean together(String a, String b) {
        return a.equals(b) || reached.get(a).contains(b) && reached.get(b).contains(a);
    }

    /** How many calls stand open at most from a method on, those that call one another counted once. */
    int from(String method) {
        Integer known = depths.get(method);
        if (known != null) return known;
        int deepest = 0;
        for (String one : calls.keySet()) {
            if (!together(one, method)) continue;
            for (String next : calls.get(one)) {
                if (calls.containsKey(next) && !together(next, method)) deepest = Math.max(deepest, from(next));
            }
        }
        depths.put(method, deepest + 1);
        return deepest + 1;
    }
}
