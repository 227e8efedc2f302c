import java.io.IOException;
import java.lang.reflect.Method;
import java.nio.file.Files;
import java.nio.file.Path;
import java.util.List;
import java.util.regex.Matcher;
import java.util.regex.Pattern;
import java.util.stream.Collectors;
import java.util.stream.Stream;

/** README.md must name every call and every test, and its example must answer what it says. */
public final class ReadmeTest {
    /** A call whose answer ends the line. */
    private static final Pattern CALL = Pattern.compile("x\\.(\\w+)\\(([^)]*)\\);\\s*//.*?(-?\\d+)$");

    private static int examples = 0;
    private static int wrong = 0;

    private static void fails(String how) {
        wrong++;
        System.out.println("README.md: " + how);
    }

    private static Method method(String name) {
        for (Method m : PastTheRim.class.getDeclaredMethods()) if (m.getName().equals(name)) return m;
        return null;
    }

    private static Object[] arguments(String words, Method m) {
        String[] parts = words.isEmpty() ? new String[0] : words.split(", ");
        Object[] all = new Object[parts.length];
        for (int i = 0; i < parts.length; i++) {
            long v = Long.decode(parts[i].replace("L", ""));
            if (m.getParameterTypes()[i] == long.class) all[i] = v;
            else all[i] = (int) v;
        }
        return all;
    }

    private static void example(List<String> lines) throws ReflectiveOperationException {
        PastTheRim x = new PastTheRim();
        for (String line : lines) {
            Matcher call = CALL.matcher(line);
            if (!line.startsWith("x.")) continue;
            Method m = call.find() ? method(call.group(1)) : null;
            if (m == null) {
                fails("not a call with its answer: " + line);
                continue;
            }
            Object got = m.invoke(x, arguments(call.group(2), m));
            examples++;
            if (!got.toString().equals(call.group(3))) fails(line + " answered " + got);
        }
    }

    private static void named(String readme, String name, String what) {
        if (!readme.contains("`" + name + "`")) fails("doesn't name the " + what + " " + name);
    }

    private static List<String> tests() throws IOException {
        try (Stream<Path> files = Files.list(Path.of("src/test/java"))) {
            return files.map(f -> f.getFileName().toString()).filter(f -> f.endsWith("Test.java"))
                .map(f -> f.replace(".java", "")).collect(Collectors.toList());
        }
    }

    public static void main(String[] args) throws IOException, ReflectiveOperationException {
        String readme = Files.readString(Path.of("README.md"));
        example(readme.lines().collect(Collectors.toList()));
        for (Method m : PastTheRim.class.getDeclaredMethods())
            if (java.lang.reflect.Modifier.isPublic(m.getModifiers())) named(readme, m.getName(), "call");
        for (String test : tests()) named(readme, test, "test");
        if (!readme.contains("bash .ci/run")) fails("doesn't tell how to run the tests");
        System.out.println("ReadmeTest: " + examples + " calls of the example, " + wrong + " wrong");
        if (wrong > 0 || examples == 0) System.exit(1);
    }
}
