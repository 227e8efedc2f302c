import java.util.ArrayList;
import java.util.Arrays;
import java.util.List;

/**
 * The document a second time, written on its own and in the plainest way: every row of gas is
 * driven from its first swing, texts are worked out as they are read, an error is an exception.
 * It stands beside the class only to be compared with it.
 */
final class Plain {
    static final class Fail extends RuntimeException {
        private static final long serialVersionUID = 1L;
        final int k;

        Fail(int k) {
            super(null, null, false, false);
            this.k = k;
        }
    }

    static final class Fault extends RuntimeException {
        private static final long serialVersionUID = 1L;
        final int place;

        Fault(int place) {
            super(null, null, false, false);
            this.place = place;
        }
    }

    static final class Held {
        int depth = 20, ice, height, side, sand, out, swing, outs, z = 1;
        List<int[]> people = new ArrayList<>();
        String[] texts = new String[2];
        String tape = "";
        List<Integer> waiting = new ArrayList<>();

        Held twin() {
            Held t = new Held();
            t.depth = depth; t.ice = ice; t.height = height; t.side = side; t.sand = sand;
            t.out = out; t.swing = swing; t.outs = outs; t.z = z;
            for (int[] p : people) t.people.add(p.clone());
            t.texts = texts.clone();
            t.tape = tape;
            t.waiting = new ArrayList<>(waiting);
            return t;
        }
    }

    Held h = new Held();
    Held imaged = null;
    int images = 0;
    int[] errors = new int[7];
    int[][] sheets = new int[4][];
    int[] sheetBits = new int[4];
    List<Integer> trace = new ArrayList<>();

    // ------------------------------------------------------------ texts

    static final String[] NAMES = {"idw", "hdn"};

    /** Reads and works out at once. */
    static final class Text {
        final String s;
        final String names;
        final int[] values;
        int at = 0;
        int open = 0;

        Text(String s, int use, int a, int b, int c) {
            this.s = s;
            names = NAMES[use];
            values = new int[] {a, b, c};
        }

        int peek() {
            return at < s.length() ? s.charAt(at) : -1;
        }

        int whole() {
            int v = t();
            if (at != s.length()) throw new Fault(at);
            return v;
        }

        int t() {
            int v = a();
            while (peek() == '|') { at++; int w = a(); v = (v != 0 | w != 0) ? 1 : 0; }
            return v;
        }

        int a() {
            int v = b();
            while (peek() == '&') { at++; int w = b(); v = (v != 0 & w != 0) ? 1 : 0; }
            return v;
        }

        int b() {
            int v = s();
            int op = peek();
            if (op == '<') { at++; return v < s() ? 1 : 0; }
            if (op == '=') { at++; return v == s() ? 1 : 0; }
            if (op == '>') { at++; return v > s() ? 1 : 0; }
            return v;
        }

        int s() {
            int v = p();
            while (true) {
                if (peek() == '+') { at++; v += p(); }
                else if (peek() == '-') { at++; v -= p(); }
                else return v;
            }
        }

        int p() {
            int v = q();
            while (true) {
                int op = peek();
                if (op != '*' && op != '/' && op != '%') return v;
                at++;
                int w = q();
                if (op == '*') v = (int) ((long) v * w);
                else if (w == 0) v = 0;
                else if (op == '/') v = (int) ((long) v / w);
                else v = (int) ((long) v % w);
            }
        }

        int q() {
            int c = peek();
            if (c >= '0' && c <= '9') {
                int from = at;
                while (at < from + 4 && peek() >= '0' && peek() <= '9') at++;
                return Integer.parseInt(s.substring(from, at));
            }
            if (c > 0 && names.indexOf(c) >= 0) {
                at++;
                return values[names.indexOf(c)];
            }
            if (c == '!' || c == '(') {
                if (open == 5) throw new Fault(at);
                at++;
                open++;
                int v;
                if (c == '!') {
                    v = q() == 0 ? 1 : 0;
                } else {
                    v = t();
                    if (peek() != ')') throw new Fault(at);
                    at++;
                }
                open--;
                return v;
            }
            throw new Fault(at);
        }
    }

    static int clamp(int v) {
        return v < 0 ? 0 : v > 99 ? 99 : v;
    }

    static int gives(Held h, int use, int a, int b, int c) {
        if (h.texts[use] != null) return clamp(new Text(h.texts[use], use, a, b, c).whole());
        if (use == 0) return clamp(9 + c - a / 10);
        return clamp(2 + b / 10);
    }

    // ------------------------------------------------------------ swings

    static int push(Held h, int i) {
        int kind = h.people.get(i)[0];
        int m = h.people.get(i)[1];
        boolean ahead = h.side == 0;
        boolean even = h.swing % 2 == 0;
        if (kind == 0) return ahead ? m : 0;
        if (kind == 1) return ahead ? m + 2 : 0;
        if (kind == 2) return ahead && even ? m : 0;
        if (kind == 3) return ahead ? 0 : m;
        if (kind == 4) return (ahead ? m + 2 : 0) + h.height / 8;
        if (kind == 5) {
            int v = (ahead && even ? m : 0) - h.swing / 8;
            return v < 0 ? 0 : v;
        }
        return 0;
    }

    static int allPush(Held h, int set) {
        int sum = 0;
        for (int i = 0; i < h.people.size(); i++) if ((set >> i & 1) == 1) sum += push(h, i);
        return sum;
    }

    static int grip(Held h, int set) {
        int weight = 0;
        for (int i = 0; i < h.people.size(); i++)
            if ((set >> i & 1) == 1 && h.people.get(i)[0] == 6) weight += h.people.get(i)[1];
        return gives(h, 0, h.ice, h.depth, weight) + (h.sand != 0 ? 3 : 0);
    }

    static int rub(Held h) {
        return gives(h, 1, h.height, h.depth, h.swing);
    }

    static boolean drive(Held h, int gas, int set) {
        int grip = grip(h, set);
        int push = allPush(h, set);
        int rub = rub(h);
        boolean spins = gas > grip;
        if (spins) {
            h.ice += gas - grip;
            if (h.ice > 99) h.ice = 99;
            h.depth++;
            if (h.depth > 60) h.depth = 60;
            if (h.sand > 0) h.sand--;
            gas = 0;
        }
        h.height = clamp(h.height + gas + push - rub);
        h.side ^= 1;
        h.swing++;
        if (h.height >= h.depth) {
            h.out = 1;
            if (h.outs < 9999) h.outs++;
        }
        return spins;
    }

    static int draw(Held h) {
        h.z = h.z * 1103515245 + 12345;
        return h.z >>> 8;
    }

    static int untilOut(Held from, int gas, int n, int set) {
        Held t = from.twin();
        for (int i = 0; i <= n; i++) {
            if (t.out == 1) return i;
            drive(t, gas, set);
        }
        return -1;
    }

    static int[] row(int r, int n) {
        int[] row = new int[n];
        for (int i = n - 1; i >= 0; i--) { row[i] = r % 10; r /= 10; }
        return row;
    }

    static int power(int n) {
        int p = 1;
        for (int i = 0; i < n; i++) p *= 10;
        return p;
    }

    // ------------------------------------------------------------ acts

    static void need(boolean ok, int k) {
        if (!ok) throw new Fail(k);
    }

    static boolean in(int v, int a, int b) {
        return a <= v && v <= b;
    }

    boolean person(int i) {
        return in(i, 0, h.people.size() - 1);
    }

    int pusher(int km) {
        need(in(km, 0, 69), 1);
        need(h.people.size() < 6, 4);
        h.people.add(new int[] {km / 10, km % 10});
        return h.people.size() - 1;
    }

    int pusherIs(int i, int what) {
        need(person(i) && in(what, 0, 3), 1);
        int[] p = h.people.get(i);
        return what < 2 ? p[what] : what == 2 ? push(h, i) : p[0] == 6 ? p[1] : 0;
    }

    int become(int i, int km) {
        need(person(i) && in(km, 0, 69), 1);
        int was = h.people.get(i)[0];
        h.people.set(i, new int[] {km / 10, km % 10});
        return was;
    }

    static final String[] LINES = {"0", "10", "20", "30", "410", "520", "60"};

    int as(int i, int kind) {
        need(person(i) && in(kind, 0, 6), 1);
        need(LINES[h.people.get(i)[0]].indexOf('0' + kind) >= 0, 5);
        return h.people.get(i)[1];
    }

    int leaves() {
        need(!h.people.isEmpty(), 3);
        h.people.remove(h.people.size() - 1);
        return h.people.size();
    }

    int car(int what, int v) {
        need(in(what, 0, 4), 1);
        need(what == 0 ? in(v, 1, 60) : what == 3 ? in(v, 0, 1) : in(v, 0, 99), 1);
        int was = carIs(what);
        if (what == 0) h.depth = v;
        if (what == 1) h.ice = v;
        if (what == 2) h.height = v;
        if (what == 3) h.side = v;
        if (what == 4) h.sand = v;
        return was;
    }

    int carIs(int what) {
        need(in(what, 0, 6), 1);
        return new int[] {h.depth, h.ice, h.height, h.side, h.sand, h.out, h.outs}[what];
    }

    int park(int depth) {
        need(in(depth, 1, 60), 1);
        h.depth = depth;
        h.ice = h.height = h.side = h.out = 0;
        return h.outs;
    }

    int feed(long word, int n) {
        need(in(n, 1, 8), 1);
        need(h.tape.length() + n <= 60, 4);
        for (int i = 0; i < n; i++) { h.tape += (char) (word & 0xFF); word >>= 8; }
        return h.tape.length();
    }

    int text(int use) {
        need(in(use, 0, 1), 1);
        String s = h.tape;
        h.tape = "";
        try {
            new Text(s, use, 1, 1, 1).whole();
        } catch (Fault f) {
            return -10 - f.place;
        }
        h.texts[use] = s;
        return 1;
    }

    int untell(int use) {
        need(in(use, 0, 1), 1);
        int had = h.texts[use] == null ? 0 : 1;
        h.texts[use] = null;
        return had;
    }

    int law(int use, int a, int b, int c) {
        need(in(use, 0, 1), 1);
        return gives(h, use, a, b, c);
    }

    boolean rests() {
        return h.out == 1 || h.swing == 9999;
    }

    int swing(int gas) {
        need(in(gas, 0, 9), 1);
        need(!rests(), 3);
        drive(h, gas, 63);
        return h.height;
    }

    int swings(int n) {
        need(in(n, 1, 40), 1);
        need(!rests(), 3);
        int i = 0;
        for (; i < n && !rests(); i++) drive(h, draw(h) % 10, 63);
        return i;
    }

    static void stroke(Held h) {
        if (h.depth > 1) h.depth--;
        h.ice = Math.max(0, h.ice - 2);
    }

    int shovel(int n) {
        need(in(n, 1, 20), 1);
        for (int i = 0; i < n; i++) stroke(h);
        return h.depth;
    }

    int seed(int v) {
        int was = h.z;
        h.z = v;
        return was;
    }

    int now(int what) {
        need(in(what, 0, 2), 1);
        return what == 0 ? grip(h, 63) : what == 1 ? allPush(h, 63) : rub(h);
    }

    int would(int gas, int what) {
        need(in(gas, 0, 9) && in(what, 0, 4), 1);
        Held t = h.twin();
        boolean spins = drive(t, gas, 63);
        return new int[] {t.height, t.depth, t.ice, spins ? 1 : 0, t.height >= t.depth ? 1 : 0}[what];
    }

    int plan(int n, int what) {
        need(in(n, 1, 4) && in(what, -2, n - 1), 1);
        need(h.out == 0, 3);
        int[] best = null;
        int bestAt = 0;
        int bestOver = 0;
        for (int r = 0; r < power(n); r++) {
            int[] row = row(r, n);
            Held t = h.twin();
            int at = 0;
            for (int i = 0; i < n && t.out == 0; i++) { drive(t, row[i], 63); at = i + 1; }
            if (t.out == 0) at = 0;
            int over = t.height - t.depth;
            boolean better;
            if (best == null) better = true;
            else if (at != 0) better = bestAt == 0 || at < bestAt;
            else better = bestAt == 0 && over > bestOver;
            if (better) { best = row; bestAt = at; bestOver = over; }
        }
        return what == -2 ? bestAt : what == -1 ? bestOver : best[what];
    }

    int steady(int gas) {
        need(in(gas, 0, 9), 1);
        int k = untilOut(h, gas, 60, 63);
        need(k >= 0, 2);
        return k;
    }

    int least() {
        for (int g = 0; g < 10; g++) if (untilOut(h, g, 60, 63) >= 0) return g;
        throw new Fail(2);
    }

    int crew(int gas, int n, int what) {
        need(in(gas, 0, 9) && in(n, 1, 60) && in(what, 0, 1), 1);
        int best = -1;
        for (int set = 0; set < 1 << h.people.size(); set++) {
            if (untilOut(h, gas, n, set) < 0) continue;
            if (best < 0 || Integer.bitCount(set) < Integer.bitCount(best)) best = set;
        }
        need(best >= 0, 2);
        return what == 1 ? best : Integer.bitCount(best);
    }

    int deepest(int gas, int n) {
        need(in(gas, 0, 9) && in(n, 1, 60), 1);
        need(h.out == 0, 3);
        int best = -1;
        for (int d = 1; d <= 60; d++) {
            Held t = h.twin();
            t.depth = d;
            if (untilOut(t, gas, n, 63) >= 0) best = d;
        }
        need(best > 0, 2);
        return best;
    }

    int strokes(int gas, int n) {
        need(in(gas, 0, 9) && in(n, 1, 60), 1);
        need(h.out == 0, 3);
        Held t = h.twin();
        for (int s = 0; s <= 20; s++) {
            if (untilOut(t, gas, n, 63) >= 0) return s;
            stroke(t);
        }
        throw new Fail(2);
    }

    int fits(int sheet, int what) {
        need(in(sheet, 0, 3) && in(what, -1, 2), 1);
        int[] s = sheets[sheet];
        need(s != null && in(s.length, 1, 3), 2);
        int found = 0;
        int[] first = null;
        for (int r = 0; r < power(s.length); r++) {
            int[] row = row(r, s.length);
            Held t = h.twin();
            boolean so = true;
            for (int i = 0; i < s.length && so; i++) {
                if (t.out == 1) { so = false; break; }
                drive(t, row[i], 63);
                so = t.height == s[i];
            }
            if (so) { found++; if (first == null) first = row; }
        }
        if (what == -1) return found;
        need(first != null && what < first.length, 2);
        return first[what];
    }

    int odds(int n, int part) {
        need(in(n, 1, 3) && in(part, 0, 1), 1);
        need(h.out == 0, 3);
        int all = power(n);
        int outs = 0;
        for (int r = 0; r < all; r++) {
            Held t = h.twin();
            for (int gas : row(r, n)) if (t.out == 0) drive(t, gas, 63);
            outs += t.out;
        }
        int above = outs;
        int below = outs == 0 ? 1 : all;
        for (int p : new int[] {2, 5})
            while (above % p == 0 && below % p == 0 && above != 0) { above /= p; below /= p; }
        return part == 0 ? above : below;
    }

    // ------------------------------------------------------------ voices

    /** The bodies as the document tells them, as classes that stand under one another. */
    static class Pusher {
        int k;
        int m;
        List<Integer> said;

        int heaves(int x) { said.add(10); return x + k; }
        int slips(int x) { said.add(11); return heaves(x) * 2; }
        int curses(int x) { said.add(12); return slips(x) - m; }
        int parts(int x) {
            said.add(13);
            if (m == k) throw new Fail(6);
            return (int) ((long) x / (m - k));
        }
    }

    static class Rhythm extends Pusher {
        @Override int heaves(int x) { said.add(20); return super.heaves(x) - 4; }
        @Override int parts(int x) { said.add(21); return super.parts(x) + slips(1); }
    }

    static class Late extends Pusher {
        @Override int slips(int x) { said.add(30); return 0 - super.slips(x); }
    }

    static class Backer extends Pusher {
        @Override int curses(int x) { said.add(40); return super.curses(x / 2); }
    }

    static class Leader extends Rhythm {
        @Override int heaves(int x) { said.add(50); return super.heaves(x) * 3; }
        @Override int curses(int x) { said.add(51); return super.curses(x) ^ k; }
    }

    static class Tired extends Late {
        @Override int slips(int x) { said.add(60); return super.slips(x + 1); }
    }

    static class Sitter extends Pusher {
        @Override int heaves(int x) { said.add(70); return 9; }
        @Override int slips(int x) { said.add(71); return super.slips(x) + m; }
    }

    int voice(int i, int voice, int x) {
        need(person(i) && in(voice, 0, 3), 1);
        Pusher[] kinds = {new Pusher(), new Rhythm(), new Late(), new Backer(), new Leader(), new Tired(), new Sitter()};
        Pusher p = kinds[h.people.get(i)[0]];
        p.k = i;
        p.m = h.people.get(i)[1];
        p.said = new ArrayList<>();
        trace = p.said;
        return voice == 0 ? p.heaves(x) : voice == 1 ? p.slips(x) : voice == 2 ? p.curses(x) : p.parts(x);
    }

    int body(int i) {
        need(in(i, 0, trace.size() - 1), 2);
        return trace.get(i);
    }

    // ------------------------------------------------------------ sheets

    int sheet(int sheet, int bits, int n) {
        need(in(sheet, 0, 3), 1);
        need(bits == 0 || bits == 8 || bits == 16 || bits == 32, 1);
        if (bits == 0) {
            sheets[sheet] = null;
        } else {
            need(n >= 0, 3);
            need(n <= 24, 1);
            sheets[sheet] = new int[n];
            sheetBits[sheet] = bits;
        }
        return 1;
    }

    int put(int sheet, int i, int v) {
        need(in(sheet, 0, 3), 1);
        need(sheets[sheet] != null, 2);
        need(in(i, 0, sheets[sheet].length - 1), 1);
        long lowest = v & ((1L << sheetBits[sheet]) - 1);
        sheets[sheet][i] = (int) lowest;
        return 1;
    }

    int move(int sheet, int i, int other, int j, int n) {
        need(in(sheet, 0, 3) && in(other, 0, 3), 1);
        need(sheets[sheet] != null && sheets[other] != null, 2);
        need(sheetBits[sheet] == sheetBits[other], 5);
        need(n >= 0 && i >= 0 && j >= 0, 1);
        need((long) i + n <= sheets[sheet].length && (long) j + n <= sheets[other].length, 1);
        int[] were = Arrays.copyOfRange(sheets[sheet], i, i + n);
        for (int t = 0; t < n; t++) sheets[other][j + t] = were[t];
        return n;
    }

    int levels(int sheet) {
        need(in(sheet, 0, 3), 1);
        need(sheets[sheet] != null, 2);
        int done = 0;
        for (int v : sheets[sheet]) {
            if (!in(v, 0, 9) || !person(done)) break;
            h.people.get(done)[1] = v;
            done++;
        }
        return done;
    }

    int judge(int sheet) {
        need(in(sheet, 0, 3), 1);
        need(sheets[sheet] != null, 2);
        Held t = h.twin();
        int right = 0;
        for (int v : sheets[sheet]) {
            if (t.out == 1) break;
            drive(t, draw(t) % 10, 63);
            if (t.height != v) break;
            right++;
        }
        return right;
    }

    int image() {
        imaged = h.twin();
        return ++images;
    }

    int restore() {
        need(imaged != null, 2);
        h = imaged.twin();
        return h.swing;
    }

    int tell(int v) {
        need(h.waiting.size() < 24, 4);
        h.waiting.add(v);
        return h.waiting.size();
    }

    int check() {
        int answer = 0;
        for (int i = h.waiting.size() - 1; i >= 0; i--)
            if (!person(i) || push(h, i) != h.waiting.get(i)) answer = 1 + i;
        h.waiting.clear();
        return answer;
    }

    int count(int what) {
        need(in(what, 0, 5), 1);
        return new int[] {h.people.size(), h.swing, h.tape.length(), h.waiting.size(), trace.size(), h.z}[what];
    }

    int told(int k) {
        need(in(k, 1, 6), 1);
        return errors[k];
    }

    /** A call by the place of its method in the document's face. */
    int act(int act, int[] a, long word) {
        try {
            return acts(act, a, word);
        } catch (Fail f) {
            errors[f.k]++;
            return -1000000000 - f.k;
        }
    }

    private int acts(int act, int[] a, long word) {
        switch (act) {
            case 2: return pusher(a[0]);
            case 3: return pusherIs(a[0], a[1]);
            case 4: return become(a[0], a[1]);
            case 5: return as(a[0], a[1]);
            case 6: return leaves();
            case 7: return car(a[0], a[1]);
            case 8: return carIs(a[0]);
            case 9: return park(a[0]);
            case 10: return feed(word, a[0]);
            case 11: return text(a[0]);
            case 12: return untell(a[0]);
            case 13: return law(a[0], a[1], a[2], a[3]);
            case 14: return swing(a[0]);
            case 15: return swings(a[0]);
            case 16: return shovel(a[0]);
            case 17: return seed(a[0]);
            case 18: return now(a[0]);
            case 19: return would(a[0], a[1]);
            case 20: return plan(a[0], a[1]);
            case 21: return steady(a[0]);
            case 22: return least();
            case 23: return crew(a[0], a[1], a[2]);
            case 24: return deepest(a[0], a[1]);
            case 25: return strokes(a[0], a[1]);
            case 26: return fits(a[0], a[1]);
            case 27: return odds(a[0], a[1]);
            case 28: return voice(a[0], a[1], a[2]);
            case 29: return body(a[0]);
            case 30: return sheet(a[0], a[1], a[2]);
            case 31: return put(a[0], a[1], a[2]);
            case 32: return move(a[0], a[1], a[2], a[3], a[4]);
            case 33: return levels(a[0]);
            case 34: return judge(a[0]);
            case 35: return image();
            case 36: return restore();
            case 37: return tell(a[0]);
            case 38: return check();
            case 39: return count(a[0]);
            default: return told(a[0]);
        }
    }
}
