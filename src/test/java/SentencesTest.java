import java.io.IOException;
import java.nio.file.Files;
import java.nio.file.Path;

/** Sentence by sentence: every one of the terms and of the promises has a test that quotes it. */
public final class SentencesTest {
    private static final String[][] INTERFACE = {
        {"pushers, the car.", "pusher", "pusherIs", "become", "as", "leaves", "car", "carIs", "park"},
        {"texts.", "feed", "text", "untell", "law"},
        {"swings.", "swing", "swings", "shovel", "seed"},
        {"what would be.", "now", "would", "plan", "steady", "least", "crew", "deepest", "strokes", "fits", "odds"},
        {"voices, sheets, images, what is told.", "voice", "body", "sheet", "put", "move", "levels", "judge", "image",
            "restore", "tell", "check", "count", "told"},
    };

    /** The sentences that tell what stands ahead of which calls. */
    private static void interfaceSays(Sentences s, String source) {
        int at = 0;
        for (String[] group : INTERFACE) {
            StringBuilder words = new StringBuilder("Ahead of the calls ");
            for (int i = 1; i < group.length; i++) words.append(i == 1 ? "`" : ", `").append(group[i]).append('`');
            words.append(" the interface says: ---- ").append(group[0]);
            int from = at;
            s.tells(Sentences.TERMS, words.toString(), () -> {
                int place = source.indexOf("// ---- " + group[0], from);
                s.due("it says so", place > 0 ? 1 : 0, 1);
                for (int i = 1; i < group.length; i++) {
                    int next = source.indexOf("public int " + group[i] + "(", Math.max(place, 0));
                    s.due(group[i] + " stands behind it", next > place ? 1 : 0, 1);
                    place = next;
                }
                int other = source.indexOf("// ---- ", source.indexOf("// ---- " + group[0], from) + 1);
                s.due("nothing else is said between", other < 0 || other > place ? 1 : 0, 1);
            });
            at = Math.max(at, source.indexOf("// ---- " + group[0], at));
        }
    }

    /** The last call that is promised answers as the first. */
    private static void manyCalls(Sentences s) {
        s.tells(Sentences.INTRO, "An object is used for at most 512 calls after it has been made; what later calls answer is free.", () -> {
            PastTheRim imaged = new PastTheRim();
            PastTheRim refused = new PastTheRim();
            PastTheRim planned = new PastTheRim();
            PastTheRim rocked = new PastTheRim();
            for (int call = 1; call <= 512; call++) {
                s.due("image() as call " + call, imaged.image(), call);
                s.due("call " + call, call < 512 ? refused.told(7) : refused.told(1), call < 512 ? Sentences.BEYOND : 511);
                s.due("plan(4, 3) as call " + call, planned.plan(4, 3), 9);
                s.due("call " + call, call % 2 == 1 ? rocked.park(1) : rocked.swing(9), call % 2 == 1 ? call / 2 : 7);
            }
        });
    }

    /** Whether all of the document holds; what doesn't is printed. */
    static boolean holds() throws IOException {
        Path root = Path.of("").toAbsolutePath();
        Sentences s = new Sentences(Files.readString(root.resolve("../shared/DOC.md")));
        interfaceSays(s, Files.readString(root.resolve("src/main/java/PastTheRim.java")));
        manyCalls(s);
        new CarSentences(s).all();
        new TextSentences(s).all();
        new ThoughtSentences(s).all();
        new VoiceSentences(s).all();
        new RefusedSentences(s).all();
        return s.ends();
    }

    public static void main(String[] args) throws IOException {
        if (!holds()) System.exit(1);
    }
}
