import java.util.Arrays;

/**
 * Tests that quote the document: each is told the words that it holds, the words must stand in the
 * part that it names, and in the end no word of the terms and of the promises may be without a test.
 */
final class Sentences {
    static final int BEYOND = -1000000001;
    static final int NONE = -1000000002;
    static final int STATE = -1000000003;
    static final int FULL = -1000000004;
    static final int KIND = -1000000005;
    static final int PARTED = -1000000006;
    static final int MIN = Integer.MIN_VALUE;
    static final int MAX = Integer.MAX_VALUE;
    /** The parts of the document: a promise's is its number; not all words of INTRO need a test. */
    static final int TERMS = 0;
    static final int INTRO = 41;
    private static final int PARTS = 42;

    private final String[] parts = new String[PARTS];
    private final boolean[][] quoted = new boolean[PARTS][];
    private String at = "";
    private int tests = 0;
    private int checks = 0;
    private int wrong = 0;

    Sentences(String doc) {
        for (int part = 0; part < PARTS; part++) {
            parts[part] = partOf(doc, part);
            quoted[part] = new boolean[parts[part].length()];
        }
    }

    private static String partOf(String doc, int part) {
        int heading = doc.indexOf(part == TERMS ? "\n## Terms\n" : part == INTRO ? "\n## What it is\n" : "\n## Promise " + part + ":");
        if (heading < 0) return "";
        int from = doc.indexOf("\n", heading + 1);
        int to = doc.indexOf("\n## ", from);
        String text = doc.substring(from, to < 0 ? doc.length() : to).replace("```text", "").replace("```", "");
        return text.replaceAll("\\s+", " ").trim();
    }

    private static String nameOf(int part) {
        return part == TERMS ? "terms" : part == INTRO ? "what it is" : "promise " + part;
    }

    /** A test of words of the document. */
    void tells(int part, String words, Runnable test) {
        at = nameOf(part) + ": " + words;
        int place = parts[part].indexOf(words);
        if (place < 0) fails("the document has no such words");
        else Arrays.fill(quoted[part], place, place + words.length(), true);
        int before = checks;
        test.run();
        if (checks == before) fails("nothing was looked at");
        tests++;
    }

    void due(String call, long got, long want) {
        checks++;
        if (got != want) fails(call + " answered " + got + ", due is " + want);
    }

    void fails(String how) {
        wrong++;
        System.out.println(at + "\n    " + how);
    }

    /** Looks for words without a test, and tells how it went. */
    boolean ends() {
        for (int part = 0; part < PARTS; part++) {
            at = nameOf(part);
            if (parts[part].isEmpty()) fails("the document has no such part");
            String left = part == INTRO ? "" : unquoted(part);
            if (!left.isEmpty()) fails("no test has the words: " + left);
        }
        System.out.println("SentencesTest: " + tests + " tests, " + checks + " checks, " + wrong + " wrong");
        return wrong == 0;
    }

    private String unquoted(int part) {
        String text = parts[part];
        int from = part == TERMS ? 0 : text.indexOf("`: ") + 1;
        StringBuilder left = new StringBuilder();
        for (int i = from; i < text.length(); i++) {
            if (!quoted[part][i] && Character.isLetterOrDigit(text.charAt(i))) left.append(text.charAt(i));
            else if (left.length() > 0 && left.charAt(left.length() - 1) != ' ') left.append(' ');
        }
        return left.toString().trim();
    }

    // ---- what many tests begin with.

    static PastTheRim withPushers(int... kms) {
        PastTheRim x = new PastTheRim();
        for (int km : kms) x.pusher(km);
        return x;
    }

    /** Feeds signs, a byte each, eight at most a word. */
    static void feed(PastTheRim x, String signs) {
        for (int i = 0; i < signs.length(); i += 8) {
            int n = Math.min(8, signs.length() - i);
            long word = 0;
            for (int j = n - 1; j >= 0; j--) word = word << 8 | signs.charAt(i + j) & 255;
            x.feed(word, n);
        }
    }

    static int text(PastTheRim x, int use, String signs) {
        feed(x, signs);
        return x.text(use);
    }

    /** A new object whose laws are told: what grips, what rubs. */
    static PastTheRim withLaws(String grip, String rub) {
        PastTheRim x = new PastTheRim();
        text(x, 0, grip);
        text(x, 1, rub);
        return x;
    }

    /** Drives on without height, and takes the text of RUB away behind it. */
    static void swingsOn(PastTheRim x, int n) {
        text(x, 1, "99");
        for (int left = n; left > 0; left -= 40) x.swings(Math.min(left, 40));
        x.untell(1);
    }

    /** Some 250 calls: till SWING is 9999. */
    static PastTheRim atTheLastSwing() {
        PastTheRim x = new PastTheRim();
        x.car(0, 60);
        swingsOn(x, 9999);
        x.car(0, 20);
        return x;
    }

    static void heights(PastTheRim x, int sheet, int bits, int... v) {
        x.sheet(sheet, bits, v.length);
        for (int i = 0; i < v.length; i++) x.put(sheet, i, v[i]);
    }

    static PastTheRim parked(PastTheRim x, int depth, int height) {
        x.car(0, depth);
        x.car(2, height);
        return x;
    }

    /** OUT, of DEPTH 1. */
    static PastTheRim comeOut() {
        PastTheRim x = parked(new PastTheRim(), 1, 50);
        x.swing(0);
        return x;
    }
}
