/**
 * Long runs of calls on the class and on Plain beside it: every answer must be alike, and nothing
 * may be thrown. The calls come from a counter of their own, so every run of this test is the same.
 */
public final class PlainTest {
    private static final int RUNS = 1200;
    private static final int CALLS = 512;
    /** The errors that each promise names: BEYOND, NONE, STATE, FULL, KIND, PARTED. */
    private static final String[] ERRORS = {"", "", "BF", "B", "B", "BK", "S", "B", "B", "B",
        "BF", "B", "B", "B", "BS", "BS", "B", "", "B", "B",
        "BS", "BN", "N", "BN", "BSN", "BSN", "BN", "BS", "BP", "N",
        "BS", "BN", "BNK", "BN", "BN", "", "N", "F", "", "B", "B"};
    private static final int[] ODD = {-1, 0, 1, 60, 61, 99, 100, 24, 25, 9, 10, 69, 70,
        Integer.MIN_VALUE, Integer.MAX_VALUE, Integer.MIN_VALUE + 1, 255, 256, -256, 9999};

    private long next;
    private PastTheRim x;
    private Plain p;
    private StringBuilder log;
    private final long[] right = new long[41];
    private final long[][] refused = new long[41][7];
    private int wrong = 0;

    private int upTo(int n) {
        next = next * 6364136223846793005L + 1442695040888963407L;
        return (int) Long.remainderUnsigned(next >>> 20, n);
    }

    private int from(int a, int b) {
        if (upTo(25) == 0) return ODD[upTo(ODD.length)];
        return a + upTo(b - a + 1);
    }

    private int call(int act, int[] a, long word) {
        int due = p.act(act, a, word);
        int got;
        try {
            got = on(act, a, word);
        } catch (Throwable t) {
            wrong++;
            System.out.println(log + "\n" + act + " threw " + t);
            return due;
        }
        log.append(act).append(java.util.Arrays.toString(a)).append(act == 10 ? Long.toString(word) : "")
            .append("=").append(got).append(' ');
        if (got != due) {
            wrong++;
            if (wrong < 4) System.out.println(log + "\n  answered " + got + ", due is " + due);
        }
        if (due < -1000000000 && due >= -1000000006) refused[act][-1000000000 - due]++; else right[act]++;
        return got;
    }

    private int on(int act, int[] a, long word) {
        switch (act) {
            case 2: return x.pusher(a[0]);
            case 3: return x.pusherIs(a[0], a[1]);
            case 4: return x.become(a[0], a[1]);
            case 5: return x.as(a[0], a[1]);
            case 6: return x.leaves();
            case 7: return x.car(a[0], a[1]);
            case 8: return x.carIs(a[0]);
            case 9: return x.park(a[0]);
            case 10: return x.feed(word, a[0]);
            case 11: return x.text(a[0]);
            case 12: return x.untell(a[0]);
            case 13: return x.law(a[0], a[1], a[2], a[3]);
            case 14: return x.swing(a[0]);
            case 15: return x.swings(a[0]);
            case 16: return x.shovel(a[0]);
            case 17: return x.seed(a[0]);
            case 18: return x.now(a[0]);
            case 19: return x.would(a[0], a[1]);
            case 20: return x.plan(a[0], a[1]);
            case 21: return x.steady(a[0]);
            case 22: return x.least();
            case 23: return x.crew(a[0], a[1], a[2]);
            case 24: return x.deepest(a[0], a[1]);
            case 25: return x.strokes(a[0], a[1]);
            case 26: return x.fits(a[0], a[1]);
            case 27: return x.odds(a[0], a[1]);
            case 28: return x.voice(a[0], a[1], a[2]);
            case 29: return x.body(a[0]);
            case 30: return x.sheet(a[0], a[1], a[2]);
            case 31: return x.put(a[0], a[1], a[2]);
            case 32: return x.move(a[0], a[1], a[2], a[3], a[4]);
            case 33: return x.levels(a[0]);
            case 34: return x.judge(a[0]);
            case 35: return x.image();
            case 36: return x.restore();
            case 37: return x.tell(a[0]);
            case 38: return x.check();
            case 39: return x.count(a[0]);
            default: return x.told(a[0]);
        }
    }

    private int[] args(int act) {
        switch (act) {
            case 2: return new int[] {from(0, 69)};
            case 3: return new int[] {from(0, 5), from(0, 3)};
            case 4: return new int[] {from(0, 5), from(0, 69)};
            case 5: return new int[] {from(0, 5), from(0, 6)};
            case 7: return carArgs();
            case 8: return new int[] {from(0, 6)};
            case 9: return new int[] {from(1, 60)};
            case 10: return new int[] {from(1, 8)};
            case 11: case 12: return new int[] {from(0, 1)};
            case 13: return new int[] {from(0, 1), from(-200, 200), from(-200, 200), from(-200, 200)};
            case 14: return new int[] {from(0, 9)};
            case 15: return new int[] {from(1, upTo(4) == 0 ? 40 : 4)};
            case 16: return new int[] {from(1, upTo(4) == 0 ? 20 : 3)};
            case 17: return new int[] {from(-100000, 100000)};
            case 18: return new int[] {from(0, 2)};
            case 19: return new int[] {from(0, 9), from(0, 4)};
            case 20: { int n = from(1, upTo(6) == 0 ? 4 : 3); return new int[] {n, from(-2, Math.max(0, Math.min(n, 4)) - 1)}; }
            case 21: return new int[] {from(0, 9)};
            case 23: return new int[] {from(0, 9), from(1, upTo(2) == 0 ? 60 : 6), from(0, 1)};
            case 24: case 25: return new int[] {from(0, 9), from(1, upTo(2) == 0 ? 60 : 6)};
            case 26: return new int[] {from(0, 3), from(-1, 2)};
            case 27: return new int[] {from(1, 3), from(0, 1)};
            case 28: return new int[] {from(0, 5), from(0, 3), from(-50, 50)};
            case 29: return new int[] {from(0, 6)};
            case 30: return new int[] {from(0, 3), new int[] {0, 8, 8, 16, 32, 7}[upTo(6)], from(-1, upTo(3) == 0 ? 24 : 3)};
            case 31: return new int[] {from(0, 3), from(0, 3), from(0, upTo(2) == 0 ? 12 : 300)};
            case 32: return new int[] {from(0, 3), from(0, 4), from(0, 3), from(0, 4), from(0, 4)};
            case 33: case 34: return new int[] {from(0, 3)};
            case 37: return new int[] {from(0, 12)};
            case 39: return new int[] {from(0, 5)};
            case 40: return new int[] {from(1, 6)};
            default: return new int[0];
        }
    }

    private int[] carArgs() {
        int what = from(0, 4);
        return new int[] {what, what == 0 ? from(1, 60) : what == 3 ? from(0, 1) : from(0, upTo(2) == 0 ? 99 : 12)};
    }

    private void words(StringBuilder s, int use, int level, int open) {
        if (level == 5) {
            int pick = upTo(8);
            if (pick < 3) s.append(upTo(upTo(3) == 0 ? 10000 : 12));
            else if (pick < 6) s.append(Plain.NAMES[use].charAt(upTo(3)));
            else if (pick == 6) { s.append('!'); words(s, use, 5, open + 1); }
            else { s.append('('); words(s, use, 0, open + 1); s.append(')'); }
            return;
        }
        words(s, use, level + 1, open);
        if (upTo(5) == 0 && s.length() < 50) {
            String[] of = {"|", "&", "<=>", "+-", "*/%"};
            s.append(of[level].charAt(upTo(of[level].length())));
            words(s, use, level + 1, open);
        }
    }

    private void feed(String s) {
        for (int at = 0; at < s.length(); at += 8) {
            int n = Math.min(8, s.length() - at);
            long word = (long) upTo(1000) << 56;
            if (n == 8) word = 0;
            for (int i = n - 1; i >= 0; i--) word |= (long) (s.charAt(at + i) & 255) << (8 * i);
            call(10, new int[] {n}, word);
        }
    }

    private void writeText() {
        int use = upTo(2);
        StringBuilder s = new StringBuilder();
        words(s, use, 0, 0);
        if (upTo(4) == 0 && s.length() > 0) {
            int at = upTo(s.length() + 1);
            String other = "()!|&<=>+-*/%idwhn0123456789 xZ" + (char) 0 + (char) 200;
            char c = other.charAt(upTo(other.length()));
            if (upTo(3) == 0) s.setLength(at);
            else if (at < s.length() && upTo(2) == 0) s.setCharAt(at, c);
            else s.insert(at, c);
        }
        if (s.length() > 60) s.setLength(60);
        feed(s.toString());
        call(11, new int[] {use}, 0);
    }

    /** Heights that come so, put on a sheet, for fits and judge to find. */
    private void writeHeights() {
        int sheet = upTo(4);
        int n = 1 + upTo(3);
        int[] heights = new int[n];
        Plain.Held t = p.h.twin();
        boolean drawn = upTo(2) == 0;
        for (int i = 0; i < n; i++) {
            Plain.drive(t, drawn ? Plain.draw(t) % 10 : upTo(10), 63);
            heights[i] = t.height;
        }
        call(30, new int[] {sheet, 8 << upTo(3), n}, 0);
        for (int i = 0; i < n; i++) call(31, new int[] {sheet, i, heights[i]}, 0);
        if (drawn) call(34, new int[] {sheet}, 0);
        for (int what = -1; what < n; what++) call(26, new int[] {sheet, what}, 0);
    }

    private void tellPushes() {
        int n = upTo(p.h.people.size() + 1);
        for (int i = 0; i < n; i++) call(37, new int[] {Plain.push(p.h, i)}, 0);
        if (upTo(3) == 0) call(37, new int[] {upTo(9)}, 0);
        call(38, new int[0], 0);
    }

    private void manyWait() {
        for (int i = 0; i < 25; i++) call(37, new int[] {upTo(9)}, 0);
        call(39, new int[] {3}, 0);
        call(38, new int[0], 0);
    }

    private void moveAbout() {
        int bits = 8 << upTo(3);
        int one = upTo(4);
        int other = upTo(4);
        call(30, new int[] {one, bits, 6}, 0);
        for (int i = 0; i < 6; i++) call(31, new int[] {one, i, upTo(12)}, 0);
        if (other != one) call(30, new int[] {other, bits, 5}, 0);
        call(32, new int[] {one, upTo(4), other, upTo(4), from(0, 3)}, 0);
        call(33, new int[] {other}, 0);
        call(33, new int[] {one}, 0);
    }

    private void speak() {
        int size = p.h.people.size();
        if (size == 0) return;
        call(28, new int[] {upTo(size), upTo(4), from(-40, 40)}, 0);
        int bodies = call(39, new int[] {4}, 0);
        for (int i = 0; i <= bodies; i++) call(29, new int[] {i}, 0);
    }

    private void lookAround() {
        for (int what = 0; what < 7; what++) call(8, new int[] {what}, 0);
        for (int what = 0; what < 6; what++) call(39, new int[] {what}, 0);
        for (int k = 0; k < 8; k++) call(40, new int[] {k}, 0);
    }

    private void run(int number) {
        next = number * 7919L + 17;
        for (int i = 0; i < 5; i++) upTo(2);
        x = new PastTheRim();
        p = new Plain();
        log = new StringBuilder("run " + number + ": ");
        int before = wrong;
        boolean heavyRun = number % 4 == 0;
        for (int i = 0; i < CALLS - 40 && wrong == before; i++) {
            int pick = upTo(30);
            if (pick == 0) writeText();
            else if (pick == 1) writeHeights();
            else if (pick == 2) tellPushes();
            else if (pick == 3 && p.h.out == 1) call(9, new int[] {1 + upTo(60)}, 0);
            else if (pick <= 5) call(2, new int[] {upTo(70)}, 0);
            else if (pick == 6 && upTo(4) == 0) manyWait();
            else if (pick == 7) moveAbout();
            else if (pick == 8) speak();
            else {
                int act = 2 + upTo(39);
                if (act == 6 && upTo(3) != 0) act = 3;
                if (act == 20 && !heavyRun && upTo(4) != 0) act = 14;
                call(act, args(act), ((long) upTo(1 << 30) << 34) ^ upTo(1 << 30));
            }
        }
        lookAround();
    }

    /** A car that never comes out, driven till the swings end. */
    private void longRun() {
        x = new PastTheRim();
        p = new Plain();
        log = new StringBuilder("long run: ");
        call(2, new int[] {58}, 0);
        call(2, new int[] {29}, 0);
        feed("50");
        call(11, new int[] {1}, 0);
        for (int i = 0; i < 249; i++) call(15, new int[] {40}, 0);
        call(15, new int[] {38}, 0);
        call(39, new int[] {1}, 0);
        call(15, new int[] {40}, 0);
        call(39, new int[] {1}, 0);
        call(39, new int[] {5}, 0);
        call(15, new int[] {1}, 0);
        call(14, new int[] {1}, 0);
        call(12, new int[] {1}, 0);
        call(7, new int[] {0, 9}, 0);
        for (int what = 0; what < 5; what++) call(19, new int[] {9, what}, 0);
        for (int what = -2; what < 4; what++) call(20, new int[] {4, what}, 0);
        call(21, new int[] {5}, 0);
        call(22, new int[0], 0);
        call(24, new int[] {9, 60}, 0);
        call(25, new int[] {4, 9}, 0);
        call(27, new int[] {3, 0}, 0);
        call(27, new int[] {3, 1}, 0);
        call(30, new int[] {0, 8, 3}, 0);
        call(34, new int[] {0}, 0);
        call(26, new int[] {0, -1}, 0);
        call(15, new int[] {41}, 0);
        call(14, new int[] {10}, 0);
        lookAround();
    }

    public static void main(String[] args) {
        PlainTest t = new PlainTest();
        t.longRun();
        for (int i = 0; i < RUNS && t.wrong == 0; i++) t.run(i);
        long all = 0;
        StringBuilder never = new StringBuilder();
        for (int act = 2; act <= 40; act++) {
            if (t.right[act] == 0) never.append(" no answer of promise ").append(act);
            all += t.right[act];
            for (int k = 1; k <= 6; k++) {
                all += t.refused[act][k];
                if (ERRORS[act].indexOf("-BNSFKP".charAt(k)) >= 0 != t.refused[act][k] > 0)
                    never.append(" ERROR ").append(k).append(" of promise ").append(act).append(": ").append(t.refused[act][k]);
            }
        }
        System.out.println("PlainTest: " + all + " calls, " + t.wrong + " not alike" + never);
        if (args.length > 0) for (int act = 2; act <= 40; act++)
            System.out.println(act + " " + t.right[act] + " " + java.util.Arrays.toString(t.refused[act]));
        if (t.wrong != 0 || never.length() != 0) System.exit(1);
    }
}
