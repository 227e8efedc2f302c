import java.util.ArrayList;
import java.util.List;

/** All that an object has, as the answers of some 200 calls; what is looked at is used up. */
final class Sight {
    private final PastTheRim x;
    private final List<String> seen = new ArrayList<>();

    private Sight(PastTheRim x) {
        this.x = x;
    }

    /** Everything but what told() tells, with THE TRACE or without. */
    static List<String> of(PastTheRim x, boolean trace) {
        Sight sight = new Sight(x);
        if (trace) sight.seeTrace();
        sight.seeWorld("");
        sight.seeSheets();
        sight.see("restore()", x.restore());
        sight.seeWorld("restored: ");
        sight.see("image()", x.image());
        sight.seeVoices();
        return sight.seen;
    }

    static int[] told(PastTheRim x) {
        int[] told = new int[7];
        for (int k = 1; k < 7; k++) told[k] = x.told(k);
        return told;
    }

    /** Where two looks differ first; empty if they don't. */
    static String unlike(List<String> one, List<String> other) {
        for (int i = 0; i < Math.max(one.size(), other.size()); i++) {
            String a = i < one.size() ? one.get(i) : "nothing";
            String b = i < other.size() ? other.get(i) : "nothing";
            if (!a.equals(b)) return a + " beside " + b;
        }
        return "";
    }

    private void see(String call, int answer) {
        seen.add(call + " = " + answer);
    }

    private void seeTrace() {
        see("count(4)", x.count(4));
        for (int i = 0; i <= x.count(4); i++) see("body(" + i + ")", x.body(i));
    }

    private void seeWorld(String when) {
        for (int what = 0; what < 7; what++) see(when + "carIs(" + what + ")", x.carIs(what));
        for (int what : new int[] {0, 1, 2, 3, 5}) see(when + "count(" + what + ")", x.count(what));
        for (int i = 0; i < x.count(0); i++) {
            see(when + "KIND of " + i, x.pusherIs(i, 0));
            see(when + "m of " + i, x.pusherIs(i, 1));
        }
        see(when + "check()", x.check());
        for (int use = 0; use < 2; use++) {
            see(when + "law(" + use + ", 3, 17, 5)", x.law(use, 3, 17, 5));
            see(when + "law(" + use + ", 40, 2, 9)", x.law(use, 40, 2, 9));
        }
        see(when + "text(0)", x.text(0));
        see(when + "law(0, 3, 17, 5) by the tape", x.law(0, 3, 17, 5));
        see(when + "untell(0)", x.untell(0));
        see(when + "untell(1)", x.untell(1));
    }

    private void seeVoices() {
        for (int voice = 0; voice < 4; voice++) see("voice(0, " + voice + ", 7)", x.voice(0, voice, 7));
        see("count(4)", x.count(4));
    }

    /** Numbers by levels of six pushers, how many by put, bits by a move of none. */
    private void seeSheets() {
        while (x.count(0) < 6) x.pusher(0);
        for (int sheet = 0; sheet < 4; sheet++) {
            for (int i = 0; i < 6; i++) x.become(i, 0);
            see("levels(" + sheet + ")", x.levels(sheet));
            for (int i = 0; i < 6; i++) see("then m of " + i, x.pusherIs(i, 1));
            for (int other = 0; other < 4; other++) {
                see("move(" + sheet + ", 0, " + other + ", 0, 0)", x.move(sheet, 0, other, 0, 0));
            }
            int size = 0;
            while (size < 25 && x.put(sheet, size, 0) == 1) size++;
            see("numbers of " + sheet, size);
        }
    }
}
