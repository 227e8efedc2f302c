import java.util.ArrayDeque;
import java.util.Deque;
import java.util.HashMap;
import java.util.HashSet;
import java.util.Map;
import java.util.Set;

/**
 * FAULT by its own words: "the place of the first byte with which no TEXT goes on". The document's
 * grammar stands here as rules, not as a reader: all ways in which a text can still go on are
 * followed at once, and where none is left, there is the fault. Every short row of signs is asked,
 * and long ones with a byte gone wrong.
 */
public final class GrammarTest {
    /**
     * Each rule's ways. U, V, W, X are what may follow in T, A, S, P; D is a digit, M a name. C stands
     * where the Q behind ! ends, so that C and ) on a way are the ! and ( that are open on it.
     */
    private static final String[][] RULES = {
        {"T", "AU"}, {"U", "", "|AU"},
        {"A", "BV"}, {"V", "", "&BV"},
        {"B", "S", "S<S", "S=S", "S>S"},
        {"S", "PW"}, {"W", "", "+PW", "-PW"},
        {"P", "QX"}, {"X", "", "*QX", "/QX", "%QX"},
        {"Q", "D", "DD", "DDD", "DDDD", "M", "!QC", "(T)"},
        {"C", ""},
    };
    private static final String[] NAMES = {"idw", "hdn"};
    private static final String SIGNS = "1dh|&<+*!()";
    private static final String ALL_SIGNS = "0123456789idwhn|&<=>+-*/%!() x";
    private static final String OPENING = "!!(((1d)*<";
    private static final int SHORT = 5;
    private static final int LONG = 60;
    private static final int OPEN_MOST = 5;
    private static final int LONG_ONES = 1500;
    private static final int CALLS = 500;

    private final Map<Character, String[]> ways = new HashMap<>();
    private PastTheRim x = new PastTheRim();
    private int calls = 0;
    private long next = 12;
    private int texts = 0;
    private int asked = 0;
    private int wrong = 0;

    private GrammarTest() {
        for (String[] rule : RULES) {
            String[] ofRule = new String[rule.length - 1];
            System.arraycopy(rule, 1, ofRule, 0, ofRule.length);
            ways.put(rule[0].charAt(0), ofRule);
        }
    }

    private static int open(String way) {
        int open = 0;
        for (char c : way.toCharArray()) open += c == 'C' || c == ')' ? 1 : 0;
        return open;
    }

    private static boolean isBy(char symbol, char sign, int use) {
        if (symbol == 'D') return sign >= '0' && sign <= '9';
        if (symbol == 'M') return NAMES[use].indexOf(sign) >= 0;
        return symbol == sign;
    }

    /** All that a way can become before its next sign is read. */
    private Set<String> grown(Set<String> from) {
        Set<String> all = new HashSet<>(from);
        Deque<String> left = new ArrayDeque<>(from);
        while (!left.isEmpty()) {
            String way = left.pop();
            String[] ofRule = way.isEmpty() ? null : ways.get(way.charAt(0));
            if (ofRule == null) continue;
            for (String begins : ofRule) {
                String longer = begins + way.substring(1);
                if (all.add(longer)) left.push(longer);
            }
        }
        return all;
    }

    /** The ways that are left behind a sign, of ways that are grown; grown again. */
    private Set<String> behind(Set<String> from, char sign, int use) {
        Set<String> left = new HashSet<>();
        for (String way : from) {
            if (way.isEmpty() || ways.containsKey(way.charAt(0)) || !isBy(way.charAt(0), sign, use)) continue;
            boolean opens = sign == '!' || sign == '(';
            // What this sign opens is on its way already, closed by its own C or ).
            if (!opens || open(way) <= OPEN_MOST) left.add(way.substring(1));
        }
        return grown(left);
    }

    /** The answer that is due for the signs, whose ways are known up to some place. */
    private void ask(String signs, int use, int due) {
        if (calls + 12 > CALLS) {
            x = new PastTheRim();
            calls = 0;
        }
        Sentences.feed(x, signs);
        int got = x.text(use);
        calls += 2 + signs.length() / 8;
        asked++;
        texts += due == 1 ? 1 : 0;
        if (got != due) {
            wrong++;
            if (wrong < 10) System.out.println("text(" + use + ") of " + signs + " answered " + got + ", due is " + due);
        }
    }

    private static int dueAtEnd(Set<String> ways, int length) {
        return ways.contains("") ? 1 : -10 - length;
    }

    private void everyShort(String signs, Set<String> ways, int use) {
        ask(signs, use, dueAtEnd(ways, signs.length()));
        if (signs.length() == SHORT) return;
        for (char sign : SIGNS.toCharArray()) {
            Set<String> left = behind(ways, sign, use);
            if (left.isEmpty()) everyBehindFault(signs + sign, signs.length(), use);
            else everyShort(signs + sign, left, use);
        }
    }

    /** What stands behind the fault doesn't matter: some of it is asked. */
    private void everyBehindFault(String signs, int fault, int use) {
        ask(signs, use, -10 - fault);
        ask(signs + signs, use, -10 - fault);
        ask(signs + ")", use, -10 - fault);
    }

    private int upTo(int n) {
        next = next * 6364136223846793005L + 1442695040888963407L;
        return (int) Long.remainderUnsigned(next >>> 20, n);
    }

    /** Signs that mostly go on; behind one that doesn't, what follows comes as it comes. */
    private void someLong(int use) {
        int length = 1 + upTo(LONG);
        String among = upTo(2) == 0 ? OPENING : ALL_SIGNS;
        Set<String> left = grown(Set.of("T"));
        StringBuilder signs = new StringBuilder();
        int fault = -1;
        while (signs.length() < length) {
            char sign = among.charAt(upTo(among.length()));
            Set<String> behind = fault < 0 ? behind(left, sign, use) : left;
            boolean goesWrong = behind.isEmpty();
            if (goesWrong && upTo(60) != 0) continue;
            if (goesWrong) fault = signs.length();
            else left = behind;
            signs.append(sign);
        }
        ask(signs.toString(), use, fault >= 0 ? -10 - fault : dueAtEnd(left, length));
    }

    public static void main(String[] args) {
        GrammarTest t = new GrammarTest();
        for (int use = 0; use < 2; use++) {
            t.everyShort("", t.grown(Set.of("T")), use);
            for (int i = 0; i < LONG_ONES / 2; i++) t.someLong(use);
        }
        System.out.println("GrammarTest: " + t.asked + " rows of signs, " + t.texts + " texts, " + t.wrong + " wrong");
        if (t.wrong > 0 || t.texts < 1000) System.exit(1);
    }
}
