import java.io.ByteArrayOutputStream;
import java.io.IOException;
import java.io.OutputStream;
import java.io.PrintStream;
import java.lang.reflect.Method;
import java.net.URI;
import java.nio.file.Files;
import java.nio.file.Path;
import java.util.ArrayList;
import java.util.List;
import java.util.Map;
import java.util.concurrent.ConcurrentHashMap;
import java.util.concurrent.ExecutorService;
import java.util.concurrent.Executors;
import java.util.concurrent.Future;
import java.util.concurrent.TimeUnit;
import java.util.regex.Matcher;
import java.util.regex.Pattern;
import java.util.stream.Stream;
import javax.tools.FileObject;
import javax.tools.ForwardingJavaFileManager;
import javax.tools.JavaCompiler;
import javax.tools.JavaFileManager;
import javax.tools.JavaFileObject;
import javax.tools.SimpleJavaFileObject;
import javax.tools.ToolProvider;

/**
 * Breaks PastTheRim at one place after the other (a bound by one, a sign turned round, a row left
 * out) and tells which broken ones SentencesTest lets pass. By hand, from the project's root:
 *     java src/test/tools/Mutants.java
 * What it tells is looked through by a person: some changes can't be seen by any call.
 */
public final class Mutants {
    private static final Path SOURCE = Path.of("src/main/java/PastTheRim.java");
    private static final Path TESTS = Path.of("src/test/java");
    private static final int SECONDS_MOST = 8;
    private static final JavaCompiler COMPILER = ToolProvider.getSystemJavaCompiler();
    private static final PrintStream SCREEN = System.out;

    private static final String[][] SIGNS = {
        {" <= ", " < "}, {" >= ", " > "}, {" < ", " <= "}, {" > ", " >= "}, {" == ", " != "}, {" != ", " == "},
        {" && ", " || "}, {" || ", " && "}, {" + ", " - "}, {" - ", " + "}, {" * ", " + "}, {" / ", " * "}, {" % ", " / "},
        {"Math.max", "Math.min"}, {"Math.min", "Math.max"}, {"true", "false"}, {"false", "true"},
        {"++", "--"}, {"--", "++"}, {" += ", " -= "}, {" & ", " | "}, {">>>", ">>"}, {"return !", "return "}, {"(!", "("},
    };

    private static final String[] WORDS = {"BEYOND", "NONE", "STATE", "FULL", "KIND", "PARTED", "BEYOND",
        "depth", "height", "ice", "sand", "side", "depth", "swing", "outs", "swing", "grip", "push", "rub", "grip",
        "PUSHER", "RHYTHM", "LATE", "BACKER", "LEADER", "TIRED", "SITTER", "PUSHER", "DEPTH_LEAST", "DEPTH_MOST", "MOST", "DEPTH_LEAST",
        "HEAVES", "SLIPS", "CURSES", "PARTS", "HEAVES", "sheet", "other", "sheet", "from", "to", "from", "left", "right", "left",
        "i", "j", "n", "i", "a", "b", "c", "a", "k", "m", "x", "k", "gas", "n", "gas", "what", "bits", "size", "bits", "use", "v", "use"};

    private record Mutant(int line, String how, String text) { }

    private static final class Source extends SimpleJavaFileObject {
        private final String text;

        Source(String name, String text) {
            super(URI.create("string:///" + name + ".java"), Kind.SOURCE);
            this.text = text;
        }

        @Override public CharSequence getCharContent(boolean ignore) {
            return text;
        }
    }

    private static final class Made extends SimpleJavaFileObject {
        private final ByteArrayOutputStream bytes;

        Made(String name, ByteArrayOutputStream bytes) {
            super(URI.create("made:///" + name + ".class"), Kind.CLASS);
            this.bytes = bytes;
        }

        @Override public OutputStream openOutputStream() {
            return bytes;
        }
    }

    private static final class Memory extends ForwardingJavaFileManager<JavaFileManager> {
        private final Map<String, ByteArrayOutputStream> classes = new ConcurrentHashMap<>();

        Memory() {
            super(COMPILER.getStandardFileManager(null, null, null));
        }

        @Override public JavaFileObject getJavaFileForOutput(Location at, String name, JavaFileObject.Kind kind, FileObject by) {
            ByteArrayOutputStream bytes = new ByteArrayOutputStream();
            classes.put(name, bytes);
            return new Made(name, bytes);
        }
    }

    private static final class Loader extends ClassLoader {
        private final Map<String, byte[]> classes;

        Loader(Map<String, byte[]> classes) {
            super(ClassLoader.getPlatformClassLoader());
            this.classes = classes;
        }

        @Override protected Class<?> findClass(String name) throws ClassNotFoundException {
            byte[] bytes = classes.get(name);
            if (bytes == null) throw new ClassNotFoundException(name);
            return defineClass(name, bytes, 0, bytes.length);
        }
    }

    private static Map<String, byte[]> compiled(List<Source> sources) {
        Memory memory = new Memory();
        boolean whole = COMPILER.getTask(new java.io.StringWriter(), memory, d -> { }, List.of("-proc:none"), null, sources).call();
        if (!whole) return null;
        Map<String, byte[]> classes = new ConcurrentHashMap<>();
        memory.classes.forEach((name, bytes) -> classes.put(name, bytes.toByteArray()));
        return classes;
    }

    private static List<Mutant> mutants(String source) {
        List<Mutant> all = new ArrayList<>();
        String[] rows = source.split("\n", -1);
        for (int i = 0; i < rows.length; i++) {
            String row = rows[i];
            String bare = row.trim();
            if (bare.startsWith("*") || bare.startsWith("/") || bare.contains(" class ")) continue;
            for (String[] sign : SIGNS) {
                for (int at = row.indexOf(sign[0]); at >= 0; at = row.indexOf(sign[0], at + 1)) {
                    add(all, rows, i, row.substring(0, at) + sign[1] + row.substring(at + sign[0].length()));
                }
            }
            Matcher number = Pattern.compile("(?<![\\w'])\\d+(?![\\w'])").matcher(row);
            while (number.find()) {
                long v = Long.parseLong(number.group());
                for (long other : new long[] {v + 1, v - 1}) {
                    add(all, rows, i, row.substring(0, number.start()) + other + row.substring(number.end()));
                }
            }
            for (int w = 0; w + 1 < WORDS.length; w++) {
                Matcher word = Pattern.compile("\\b" + WORDS[w] + "\\b").matcher(row);
                while (word.find()) add(all, rows, i, row.substring(0, word.start()) + WORDS[w + 1] + row.substring(word.end()));
            }
            Matcher condition = Pattern.compile("if \\((.*)\\) \\{$").matcher(bare);
            if (condition.find()) {
                String way = row.substring(0, row.indexOf("if (") + 4);
                add(all, rows, i, way + "(" + condition.group(1) + ") && MIN_NEVER == 1) {");
                add(all, rows, i, way + "(" + condition.group(1) + ") || MIN_NEVER == 0) {");
            }
            boolean act = bare.endsWith(";") && !bare.startsWith("return") && !bare.startsWith("private")
                && !bare.matches("(int|boolean|Car|Sheet|String)\\b.*") && !bare.startsWith("case") && !bare.equals("break;");
            if (act) add(all, rows, i, "");
            if (bare.matches("case .*: .* break;")) add(all, rows, i, row.substring(0, row.indexOf(':') + 1) + " break;");
            if (bare.matches("case .*: return .*;")) add(all, rows, i, row.substring(0, row.indexOf(':') + 1) + " return 77;");
        }
        addTurned(all, rows);
        return all;
    }

    /** Two conditions of three rows each, the second asked ahead of the first. */
    private static void addTurned(List<Mutant> all, String[] rows) {
        for (int i = 0; i + 5 < rows.length; i++) {
            boolean two = rows[i].trim().startsWith("if (") && rows[i + 2].trim().equals("}")
                && rows[i + 3].trim().startsWith("if (") && rows[i + 5].trim().equals("}");
            if (!two) continue;
            String[] turned = rows.clone();
            System.arraycopy(rows, i + 3, turned, i, 3);
            System.arraycopy(rows, i, turned, i + 3, 3);
            all.add(new Mutant(i + 1, "turned: " + rows[i].trim() + " and " + rows[i + 3].trim(), String.join("\n", turned)));
        }
    }

    private static void add(List<Mutant> all, String[] rows, int i, String row) {
        String was = rows[i];
        rows[i] = row;
        String text = String.join("\n", rows).replaceFirst("private static final int LOW ", "private static final int MIN_NEVER = 0; private static final int LOW ");
        rows[i] = was;
        all.add(new Mutant(i + 1, was.trim() + "   =>   " + row.trim(), text));
    }

    /** Whether the tests see that it is broken; null if it isn't Java. */
    private static Boolean isSeen(Mutant mutant, Map<String, byte[]> tests) throws Exception {
        Map<String, byte[]> classes = compiled(List.of(new Source("PastTheRim", mutant.text)));
        if (classes == null) return null;
        tests.forEach(classes::putIfAbsent);
        Method holds = new Loader(classes).loadClass("SentencesTest").getDeclaredMethod("holds");
        holds.setAccessible(true);
        boolean[] seen = {true};
        Thread run = new Thread(() -> {
            try {
                seen[0] = !(Boolean) holds.invoke(null);
            } catch (ReflectiveOperationException thrown) {
                seen[0] = true;
            }
        });
        run.setDaemon(true);
        run.start();
        run.join(SECONDS_MOST * 1000L);
        return seen[0];
    }

    public static void main(String[] args) throws Exception {
        String source = Files.readString(SOURCE);
        List<Source> all = new ArrayList<>();
        all.add(new Source("PastTheRim", source));
        try (Stream<Path> files = Files.list(TESTS)) {
            for (Path file : files.toList()) {
                String name = file.getFileName().toString().replace(".java", "");
                if (name.matches("Sentences.*|.*Sentences|Sight")) all.add(new Source(name, Files.readString(file)));
            }
        }
        Map<String, byte[]> tests = compiled(all);
        if (tests == null) throw new IOException("the tests do not compile");
        tests.keySet().removeIf(name -> name.startsWith("PastTheRim"));
        System.setOut(new PrintStream(OutputStream.nullOutputStream()));
        List<Mutant> mutants = mutants(source);
        ExecutorService workers = Executors.newFixedThreadPool(Runtime.getRuntime().availableProcessors());
        List<Future<Boolean>> ends = new ArrayList<>();
        for (Mutant mutant : mutants) ends.add(workers.submit(() -> isSeen(mutant, tests)));
        int seen = 0;
        int unseen = 0;
        for (int i = 0; i < mutants.size(); i++) {
            Boolean end = ends.get(i).get();
            if (end == null) continue;
            if (end) {
                seen++;
            } else {
                unseen++;
                SCREEN.println(mutants.get(i).line + ": " + mutants.get(i).how);
            }
        }
        workers.shutdown();
        workers.awaitTermination(1, TimeUnit.SECONDS);
        SCREEN.println(seen + " broken ones are seen, " + unseen + " are not");
        System.exit(0);
    }
}
