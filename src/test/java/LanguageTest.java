import java.io.IOException;
import java.lang.reflect.Method;
import java.lang.reflect.Modifier;
import java.nio.file.Files;
import java.nio.file.Path;
import java.util.ArrayList;
import java.util.List;
import java.util.Set;
import java.util.TreeSet;
import java.util.regex.Matcher;
import java.util.regex.Pattern;

/** The face of the class against the document's, and what of LANGUAGE.md can be seen in the text. */
public final class LanguageTest {
    private static int wrong = 0;
    private static int looked = 0;

    private static void holds(String rule, boolean so) {
        looked++;
        if (!so) {
            wrong++;
            System.out.println(rule);
        }
    }

    private static String withoutCommentsAndSigns(String text) {
        return text.replaceAll("(?s)/\\*.*?\\*/", " ").replaceAll("//[^\n]*", " ")
            .replaceAll("'(\\\\.|[^'\\\\])'", "'s'");
    }

    private static Set<String> faceOfDocument(String doc) {
        String block = doc.substring(doc.indexOf("```java"), doc.indexOf("```", doc.indexOf("```java") + 3));
        Set<String> face = new TreeSet<>();
        Matcher m = Pattern.compile("public int (\\w+)\\(([^)]*)\\);").matcher(block);
        while (m.find()) {
            face.add(m.group(1) + "(" + m.group(2).replaceAll("(int|long) \\w+", "$1").replace(" ", "") + ")");
        }
        return face;
    }

    private static Set<String> faceOfClass() {
        Set<String> face = new TreeSet<>();
        for (Method m : PastTheRim.class.getDeclaredMethods()) {
            if (Modifier.isPrivate(m.getModifiers()) || m.isSynthetic()) continue;
            List<String> types = new ArrayList<>();
            for (Class<?> c : m.getParameterTypes()) types.add(c.getName());
            face.add(m.getName() + "(" + String.join(",", types) + ")");
            holds("rule 1: " + m + " is public, answers an int", Modifier.isPublic(m.getModifiers()) && m.getReturnType() == int.class);
        }
        return face;
    }

    private static void members(Set<String> names) {
        int classes = 1;
        for (Class<?> c : PastTheRim.class.getDeclaredClasses()) {
            classes++;
            holds("rule 1: " + c + " is static, not public", Modifier.isStatic(c.getModifiers())
                && !Modifier.isPublic(c.getModifiers()) && !Modifier.isProtected(c.getModifiers()));
            holds("rule 2: no class inside " + c, c.getDeclaredClasses().length == 0);
            for (Method m : c.getDeclaredMethods()) {
                holds("rule 1: " + m + " has a public name", !names.contains(m.getName()));
                holds("rule 11: parameters of " + m, m.getParameterCount() <= 7);
            }
            fields(c);
        }
        fields(PastTheRim.class);
        holds("rule 11: " + classes + " classes", classes <= 12);
        for (Method m : PastTheRim.class.getDeclaredMethods()) {
            holds("rule 1: private " + m, !Modifier.isPrivate(m.getModifiers()) || !names.contains(m.getName()));
        }
        holds("rule 1: one constructor, public", PastTheRim.class.getDeclaredConstructors().length == 1
            && PastTheRim.class.getConstructors().length == 1);
        holds("rule 1: final", Modifier.isFinal(PastTheRim.class.getModifiers()));
    }

    private static void fields(Class<?> c) {
        int own = 0;
        for (java.lang.reflect.Field f : c.getDeclaredFields()) {
            if (f.isSynthetic()) continue;
            if (!Modifier.isStatic(f.getModifiers())) own++;
            holds("rule 5: " + f + " is final", !Modifier.isStatic(f.getModifiers()) || Modifier.isFinal(f.getModifiers()));
            holds("rule 1: " + f + " is private", Modifier.isPrivate(f.getModifiers()));
        }
        holds("rule 11: fields of " + c, own <= 20);
    }

    private static void words(String text) {
        String[] none = {"throw", "throws", "try", "catch", "synchronized", "assert", "import", "package", "yield",
            "finally", "native", "volatile", "transient", "strictfp", "double", "float", "Object", "equals",
            "hashCode", "toString", "Thread", "Random", "var", "sealed", "record", "addExact", "Exception"};
        for (String word : none) {
            holds("no word " + word, !Pattern.compile("\\b" + word + "\\b").matcher(text).find());
        }
        holds("rule 2: no lambda", !text.contains("->"));
        holds("rule 2: no method reference", !text.contains("::"));
        holds("no text joined by +", !text.contains("\""));
        holds("rule 4: of System, arraycopy alone", !Pattern.compile("System\\.(?!arraycopy\\()").matcher(text).find());
        holds("rule 4: of Math, max and min alone", !Pattern.compile("Math\\.(?!max\\(|min\\()").matcher(text).find());
        holds("rule 4: of Integer, bitCount alone", !Pattern.compile("Integer\\.(?!bitCount\\()").matcher(text).find());
        holds("rule 5: no static block", !Pattern.compile("static\\s*\\{").matcher(text).find());
    }

    private static void lengths(String text) {
        int from = -1;
        int line = 0;
        for (String row : text.split("\n")) {
            line++;
            if (row.matches(" {4,8}[^ }/*].*\\) \\{")) from = line;
            if (row.matches(" {4,8}}") && from > 0) {
                holds("rule 11: the method at line " + from + " is long", line - from < 60);
                from = -1;
            }
        }
    }

    private static void depths() throws IOException {
        CallDepth calls = new CallDepth(Path.of(System.getProperty("java.class.path")));
        holds("calls of no method: " + calls.unknown(), calls.unknown().isEmpty());
        for (String method : calls.methods()) {
            holds("rule 11: from " + method + " on calls go " + calls.from(method) + " deep", calls.from(method) <= 8);
        }
    }

    public static void main(String[] args) throws IOException {
        Path root = Path.of("").toAbsolutePath();
        String source = Files.readString(root.resolve("src/main/java/PastTheRim.java"));
        String doc = Files.readString(root.resolve("../shared/DOC.md"));
        Set<String> due = faceOfDocument(doc);
        holds("the document has 39 methods, not " + due.size(), due.size() == 39);
        Set<String> is = faceOfClass();
        holds("the face is " + is + ", due is " + due, is.equals(due));
        Set<String> names = new TreeSet<>();
        for (String s : due) names.add(s.substring(0, s.indexOf('(')));
        members(names);
        String text = withoutCommentsAndSigns(source);
        words(text);
        lengths(source);
        depths();
        holds("signs 1 to 127 alone", source.chars().allMatch(c -> c > 0 && c < 128));
        System.out.println("LanguageTest: " + looked + " looked at, " + wrong + " wrong");
        if (wrong != 0) System.exit(1);
    }
}
