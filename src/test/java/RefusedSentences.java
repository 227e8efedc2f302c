import java.util.Arrays;
import java.util.function.Supplier;
import java.util.function.ToIntFunction;

/**
 * Every ERROR of every act, in the order in which the document asks them. Each refused call is
 * made on one of two objects that are alike: then told() tells one more of that ERROR there, and
 * nothing else is unlike.
 */
final class RefusedSentences {
    private static final int TERMS = Sentences.TERMS;
    private static final int BEYOND = Sentences.BEYOND;
    private static final int NONE = Sentences.NONE;
    private static final int STATE = Sentences.STATE;
    private static final int FULL = Sentences.FULL;
    private static final int KIND = Sentences.KIND;
    private static final int PARTED = Sentences.PARTED;
    private static final int MIN = Sentences.MIN;
    private static final int MAX = Sentences.MAX;

    private final Sentences s;

    RefusedSentences(Sentences s) {
        this.s = s;
    }

    void all() {
        terms();
        pushers();
        car();
        texts();
        swings();
        thoughts();
        depths();
        rows();
        voices();
        sheets();
        moves();
        wholeSheets();
        rest();
    }

    // ---- how a call is refused.

    private void refuses(Supplier<PastTheRim> made, int error, String call, ToIntFunction<PastTheRim> act) {
        PastTheRim x = made.get();
        int[] told = Sight.told(x);
        s.due(call, act.applyAsInt(x), error);
        told[-1000000000 - error]++;
        int[] then = Sight.told(x);
        s.due("told() behind " + call + ": " + Arrays.toString(then), Arrays.equals(then, told) ? 1 : 0, 1);
        boolean trace = error != PARTED;
        String unlike = Sight.unlike(Sight.of(x, trace), Sight.of(made.get(), trace));
        s.due("what changes by " + call + ": " + unlike, unlike.length(), 0);
    }

    /** Refused for numbers too small and too large, next to the bounds and far off. */
    private void refusesBeyond(Supplier<PastTheRim> made, int least, int most, String call, Call act) {
        for (int v : new int[] {least - 1, most + 1, least - 256, most + 256, MIN, MAX}) {
            refuses(made, BEYOND, call.replace("..", "" + v), x -> act.of(x, v));
        }
    }

    private interface Call {
        int of(PastTheRim x, int v);
    }

    // ---- objects to refuse.

    /** Something of everything, and other things in its image. */
    private static PastTheRim rich() {
        PastTheRim x = Sentences.withPushers(63, 14);
        x.car(1, 3);
        Sentences.text(x, 0, "w+9");
        Sentences.feed(x, "1+d");
        x.tell(4);
        x.image();
        x.text(1);
        int[] car = {33, 7, 12, 1, 5};
        for (int what = 0; what < 5; what++) x.car(what, car[what]);
        Sentences.text(x, 0, "w+7");
        Sentences.text(x, 1, "n+1");
        x.swing(0);
        x.seed(99);
        Sentences.feed(x, "5+i");
        x.tell(0);
        x.tell(8);
        x.voice(1, 2, 3);
        Sentences.heights(x, 0, 8, 3, 5, 7);
        Sentences.heights(x, 1, 16, 4, 6);
        Sentences.heights(x, 2, 8, 1);
        return x;
    }

    private static PastTheRim out() {
        PastTheRim x = rich();
        x.car(2, 90);
        x.swing(0);
        return x;
    }

    private static PastTheRim last() {
        PastTheRim x = Sentences.atTheLastSwing();
        x.pusher(15);
        x.car(1, 5);
        Sentences.feed(x, "5+i");
        x.image();
        return x;
    }

    private static PastTheRim six() {
        PastTheRim x = rich();
        while (x.count(0) < 6) x.pusher(10 * x.count(0) + 2);
        return x;
    }

    private static PastTheRim nobody() {
        PastTheRim x = rich();
        x.leaves();
        x.leaves();
        return x;
    }

    private static PastTheRim fed(int bytes) {
        PastTheRim x = rich();
        while (x.count(2) < bytes) x.feed('1', 1);
        return x;
    }

    /** A car that no gas and nobody brings on. */
    private static PastTheRim stuck() {
        PastTheRim x = rich();
        x.text(0);
        Sentences.text(x, 1, "99");
        return x;
    }

    private static PastTheRim stuckOut() {
        PastTheRim x = out();
        x.car(2, 0);
        x.text(0);
        Sentences.text(x, 1, "99");
        return x;
    }

    // ---- terms.

    private void terms() {
        s.tells(TERMS, "ERRORS are answers below -1000000000: LOW is -1000000000; LOW - 1 BEYOND, LOW - 2 NONE, LOW - 3 STATE, "
            + "LOW - 4 FULL, LOW - 5 KIND, LOW - 6 PARTED (in longs, too).", () -> {
            s.due("BEYOND", rich().now(3), -1000000001);
            s.due("NONE", rich().body(30), -1000000002);
            s.due("STATE", new PastTheRim().leaves(), -1000000003);
            s.due("FULL", six().pusher(0), -1000000004);
            s.due("KIND", rich().as(0, 1), -1000000005);
            s.due("PARTED", Sentences.withPushers(0).voice(0, 3, 1), -1000000006);
        });
        s.tells(TERMS, "Each act tells its ERRORS in the order in which they are asked;", () -> {
            refuses(RefusedSentences::six, BEYOND, "pusher(70) of six", x -> x.pusher(70));
            refuses(RefusedSentences::stuckOut, STATE, "deepest(0, 1), OUT", x -> x.deepest(0, 1));
            refuses(RefusedSentences::rich, NONE, "put(3, 9, 1), missing", x -> x.put(3, 9, 1));
            refuses(RefusedSentences::rich, KIND, "move(0, 9, 1, 9, 9), unlike bits", x -> x.move(0, 9, 1, 9, 9));
        });
        s.tells(TERMS, "one that answers an ERROR changes nothing but what told() tells, or where told.", () -> {
            refuses(RefusedSentences::out, STATE, "swing(9), OUT", x -> x.swing(9));
            refuses(RefusedSentences::rich, BEYOND, "move(0, 0, 2, 0, 2), no room", x -> x.move(0, 0, 2, 0, 2));
            refuses(() -> fed(58), FULL, "feed(.., 3) of 58", x -> x.feed(0x313131L, 3));
            PastTheRim x = Sentences.withPushers(5, 1);
            x.voice(0, 2, 1);
            s.due("voice(1, 3, 1)", x.voice(1, 3, 1), PARTED);
            s.due("where told: THE TRACE is of the latest voice()", x.count(4), 1);
            s.due("where told: THE TRACE is of the latest voice()", x.body(0), 13);
        });
        s.tells(TERMS, "Quotients are cut toward 0.", () -> {
            s.due("9 less -19 by 10", new PastTheRim().law(0, -19, 0, 0), 10);
            s.due("2 and -19 by 10", new PastTheRim().law(1, 0, -19, 0), 1);
            s.due("-7 by 2", Sentences.withPushers(2).voice(0, 3, -7), -3);
            s.due("curses(-1) of a BACKER", Sentences.withPushers(30).voice(0, 2, -1), 0);
            PastTheRim x = Sentences.withLaws("i/d+9", "0");
            s.due("-7 by 2 and 9", x.law(0, -7, 2, 0), 6);
        });
    }

    // ---- promises.

    private void pushers() {
        s.tells(2, "BEYOND.", () -> refusesBeyond(RefusedSentences::rich, 0, 69, "pusher(..)", (x, v) -> x.pusher(v)));
        s.tells(2, "FULL.", () -> refuses(RefusedSentences::six, FULL, "pusher(0) of six", x -> x.pusher(0)));
        s.tells(2, "BEYOND. FULL.", () -> refusesBeyond(RefusedSentences::six, 0, 69, "pusher(..) of six", (x, v) -> x.pusher(v)));
        s.tells(3, "BEYOND.", () -> {
            refusesBeyond(RefusedSentences::rich, 0, 1, "pusherIs(.., 0)", (x, v) -> x.pusherIs(v, 0));
            refusesBeyond(RefusedSentences::rich, 0, 3, "pusherIs(0, ..)", (x, v) -> x.pusherIs(0, v));
            refusesBeyond(RefusedSentences::six, 0, 5, "pusherIs(.., 2) of six", (x, v) -> x.pusherIs(v, 2));
            refuses(RefusedSentences::nobody, BEYOND, "pusherIs(0, 0) of none", x -> x.pusherIs(0, 0));
        });
        s.tells(4, "BEYOND.", () -> {
            refusesBeyond(RefusedSentences::rich, 0, 1, "become(.., 11)", (x, v) -> x.become(v, 11));
            refusesBeyond(RefusedSentences::rich, 0, 69, "become(1, ..)", (x, v) -> x.become(1, v));
            refuses(RefusedSentences::nobody, BEYOND, "become(0, 11) of none", x -> x.become(0, 11));
        });
        s.tells(5, "BEYOND.", () -> {
            refusesBeyond(RefusedSentences::rich, 0, 1, "as(.., 0)", (x, v) -> x.as(v, 0));
            refusesBeyond(RefusedSentences::rich, 0, 6, "as(0, ..)", (x, v) -> x.as(0, v));
            refuses(RefusedSentences::nobody, BEYOND, "as(0, 0) of none", x -> x.as(0, 0));
            refuses(RefusedSentences::rich, BEYOND, "as(2, 5), ahead of KIND", x -> x.as(2, 5));
        });
        s.tells(5, "KIND: it isn't of that KIND, nor of one under it.", () -> {
            for (int kind = 1; kind < 6; kind++) {
                int other = kind;
                refuses(RefusedSentences::rich, KIND, "as(0, " + kind + ") of a SITTER", x -> x.as(0, other));
            }
            refuses(RefusedSentences::rich, KIND, "as(1, 4): a LEADER is under RHYTHM, not above", x -> x.as(1, 4));
            refuses(RefusedSentences::six, KIND, "as(2, 5): a TIRED is under LATE, not above", x -> x.as(2, 5));
            refuses(() -> Sentences.withPushers(7), KIND, "as(0, 1): PUSHER is above", x -> x.as(0, 1));
        });
        s.tells(6, "STATE: there is none.", () -> {
            refuses(RefusedSentences::nobody, STATE, "leaves() of none", PastTheRim::leaves);
            refuses(PastTheRim::new, STATE, "leaves() of a new object", PastTheRim::leaves);
        });
    }

    private void car() {
        s.tells(7, "BEYOND.", () -> {
            refusesBeyond(RefusedSentences::rich, 0, 4, "car(.., 1)", (x, v) -> x.car(v, 1));
            int[] least = {1, 0, 0, 0, 0};
            int[] most = {60, 99, 99, 1, 99};
            for (int what = 0; what < 5; what++) {
                int of = what;
                refusesBeyond(RefusedSentences::rich, least[what], most[what], "car(" + what + ", ..)", (x, v) -> x.car(of, v));
            }
        });
        s.tells(8, "BEYOND.", () -> refusesBeyond(RefusedSentences::rich, 0, 6, "carIs(..)", (x, v) -> x.carIs(v)));
        s.tells(9, "BEYOND.", () -> {
            refusesBeyond(RefusedSentences::rich, 1, 60, "park(..)", (x, v) -> x.park(v));
            refusesBeyond(RefusedSentences::out, 1, 60, "park(..), OUT", (x, v) -> x.park(v));
        });
    }

    private void texts() {
        s.tells(10, "BEYOND.", () -> refusesBeyond(RefusedSentences::rich, 1, 8, "feed(7, ..)", (x, v) -> x.feed(7, v)));
        s.tells(10, "FULL.", () -> {
            refuses(() -> fed(60), FULL, "feed(49, 1) of 60", x -> x.feed(49, 1));
            refuses(() -> fed(59), FULL, "feed(49, 2) of 59", x -> x.feed(49, 2));
            refuses(() -> fed(53), FULL, "feed(49, 8) of 53", x -> x.feed(49, 8));
            s.due("feed(49, 1) of 59", fed(59).feed(49, 1), 60);
            s.due("feed(49, 8) of 52", fed(52).feed(49, 8), 60);
        });
        s.tells(10, "BEYOND. FULL.", () -> refusesBeyond(() -> fed(60), 1, 8, "feed(49, ..) of 60", (x, v) -> x.feed(49, v)));
        s.tells(11, "BEYOND (THE TAPE stays).", () -> {
            refusesBeyond(RefusedSentences::rich, 0, 1, "text(..)", (x, v) -> x.text(v));
            PastTheRim x = Sentences.withLaws("4", "5");
            Sentences.feed(x, "77");
            s.due("text(2)", x.text(2), BEYOND);
            s.due("text(-1)", x.text(-1), BEYOND);
            s.due("count(2)", x.count(2), 2);
            s.due("text(0)", x.text(0), 1);
            s.due("the bytes that stayed", x.law(0, 0, 0, 0), 77);
        });
        s.tells(12, "BEYOND.", () -> refusesBeyond(RefusedSentences::rich, 0, 1, "untell(..)", (x, v) -> x.untell(v)));
        s.tells(13, "BEYOND.", () -> refusesBeyond(RefusedSentences::rich, 0, 1, "law(.., 1, 2, 3)", (x, v) -> x.law(v, 1, 2, 3)));
    }

    private void swings() {
        s.tells(14, "BEYOND.", () -> {
            refusesBeyond(RefusedSentences::rich, 0, 9, "swing(..)", (x, v) -> x.swing(v));
            refusesBeyond(RefusedSentences::out, 0, 9, "swing(..), OUT", (x, v) -> x.swing(v));
            refuses(RefusedSentences::last, BEYOND, "swing(10), SWING 9999", x -> x.swing(10));
        });
        s.tells(14, "STATE: it is OUT, or SWING is 9999.", () -> {
            for (int gas : new int[] {0, 5, 9}) refuses(RefusedSentences::out, STATE, "swing(" + gas + "), OUT", x -> x.swing(gas));
            refuses(RefusedSentences::last, STATE, "swing(0), SWING 9999", x -> x.swing(0));
            PastTheRim x = new PastTheRim();
            Sentences.swingsOn(x, 9998);
            s.due("SWING 9998", x.swing(0), 0);
            s.due("SWING 9999", x.swing(0), STATE);
        });
        s.tells(15, "BEYOND.", () -> {
            refusesBeyond(RefusedSentences::rich, 1, 40, "swings(..)", (x, v) -> x.swings(v));
            refusesBeyond(RefusedSentences::out, 1, 40, "swings(..), OUT", (x, v) -> x.swings(v));
            refuses(RefusedSentences::last, BEYOND, "swings(41), SWING 9999", x -> x.swings(41));
        });
        s.tells(15, "STATE: it is OUT, or SWING is 9999, ahead of all.", () -> {
            for (int n : new int[] {1, 40}) refuses(RefusedSentences::out, STATE, "swings(" + n + "), OUT", x -> x.swings(n));
            refuses(RefusedSentences::last, STATE, "swings(1), SWING 9999", x -> x.swings(1));
            PastTheRim x = Sentences.parked(new PastTheRim(), 1, 9);
            s.due("OUT behind the first is no ERROR", x.swings(40), 1);
            s.due("told(3)", x.told(3), 0);
        });
        s.tells(16, "BEYOND.", () -> refusesBeyond(RefusedSentences::rich, 1, 20, "shovel(..)", (x, v) -> x.shovel(v)));
    }

    private void thoughts() {
        s.tells(18, "BEYOND.", () -> refusesBeyond(RefusedSentences::rich, 0, 2, "now(..)", (x, v) -> x.now(v)));
        s.tells(19, "BEYOND.", () -> {
            refusesBeyond(RefusedSentences::rich, 0, 9, "would(.., 0)", (x, v) -> x.would(v, 0));
            refusesBeyond(RefusedSentences::rich, 0, 4, "would(9, ..)", (x, v) -> x.would(9, v));
            refusesBeyond(RefusedSentences::out, 0, 9, "would(.., 0), OUT", (x, v) -> x.would(v, 0));
        });
        s.tells(20, "BEYOND.", () -> {
            refusesBeyond(RefusedSentences::rich, 1, 4, "plan(.., 0)", (x, v) -> x.plan(v, 0));
            refusesBeyond(RefusedSentences::rich, 1, 4, "plan(.., -2)", (x, v) -> x.plan(v, -2));
            for (int n = 1; n < 5; n++) {
                int of = n;
                refusesBeyond(RefusedSentences::rich, -2, n - 1, "plan(" + n + ", ..)", (x, v) -> x.plan(of, v));
            }
            refusesBeyond(RefusedSentences::out, 1, 4, "plan(.., 0), OUT", (x, v) -> x.plan(v, 0));
            refusesBeyond(RefusedSentences::out, -2, 1, "plan(2, ..), OUT", (x, v) -> x.plan(2, v));
        });
        s.tells(20, "STATE: it is OUT.", () -> {
            for (int what = -2; what < 4; what++) {
                int of = what;
                refuses(RefusedSentences::out, STATE, "plan(4, " + what + "), OUT", x -> x.plan(4, of));
            }
        });
        s.tells(21, "BEYOND.", () -> {
            refusesBeyond(RefusedSentences::rich, 0, 9, "steady(..)", (x, v) -> x.steady(v));
            refusesBeyond(RefusedSentences::out, 0, 9, "steady(..), OUT", (x, v) -> x.steady(v));
            refusesBeyond(RefusedSentences::stuck, 0, 9, "steady(..), none", (x, v) -> x.steady(v));
        });
        s.tells(21, "NONE: not by 60.", () -> {
            for (int gas : new int[] {0, 9}) refuses(RefusedSentences::stuck, NONE, "steady(" + gas + ")", x -> x.steady(gas));
            PastTheRim x = Sentences.withLaws("9", "n=0");
            x.car(0, 60);
            s.due("by 61", x.steady(1), NONE);
            x.car(0, 59);
            s.due("by 60", x.steady(1), 60);
        });
        s.tells(22, "NONE: with none.", () -> refuses(RefusedSentences::stuck, NONE, "least()", PastTheRim::least));
        s.tells(23, "BEYOND.", () -> {
            refusesBeyond(RefusedSentences::rich, 0, 9, "crew(.., 1, 0)", (x, v) -> x.crew(v, 1, 0));
            refusesBeyond(RefusedSentences::rich, 1, 60, "crew(9, .., 0)", (x, v) -> x.crew(9, v, 0));
            refusesBeyond(RefusedSentences::rich, 0, 1, "crew(9, 60, ..)", (x, v) -> x.crew(9, 60, v));
            refusesBeyond(RefusedSentences::out, 1, 60, "crew(9, .., 0), OUT", (x, v) -> x.crew(9, v, 0));
            refusesBeyond(RefusedSentences::stuck, 0, 1, "crew(9, 60, ..), none", (x, v) -> x.crew(9, 60, v));
        });
        s.tells(23, "NONE: with no set.", () -> {
            for (int what = 0; what < 2; what++) {
                int of = what;
                refuses(RefusedSentences::stuck, NONE, "crew(9, 60, " + what + ")", x -> x.crew(9, 60, of));
            }
        });
    }

    private void depths() {
        s.tells(24, "BEYOND.", () -> {
            refusesBeyond(RefusedSentences::rich, 0, 9, "deepest(.., 1)", (x, v) -> x.deepest(v, 1));
            refusesBeyond(RefusedSentences::rich, 1, 60, "deepest(9, ..)", (x, v) -> x.deepest(9, v));
            refusesBeyond(RefusedSentences::out, 0, 9, "deepest(.., 1), OUT", (x, v) -> x.deepest(v, 1));
            refusesBeyond(RefusedSentences::stuck, 1, 60, "deepest(9, ..), none", (x, v) -> x.deepest(9, v));
        });
        s.tells(24, "STATE: it is OUT.", () -> {
            refuses(RefusedSentences::out, STATE, "deepest(9, 60), OUT", x -> x.deepest(9, 60));
            refuses(RefusedSentences::stuckOut, STATE, "deepest(0, 1), OUT and none", x -> x.deepest(0, 1));
        });
        s.tells(24, "NONE: with none.", () -> refuses(RefusedSentences::stuck, NONE, "deepest(9, 60)", x -> x.deepest(9, 60)));
        s.tells(25, "BEYOND.", () -> {
            refusesBeyond(RefusedSentences::rich, 0, 9, "strokes(.., 1)", (x, v) -> x.strokes(v, 1));
            refusesBeyond(RefusedSentences::rich, 1, 60, "strokes(9, ..)", (x, v) -> x.strokes(9, v));
            refusesBeyond(RefusedSentences::out, 0, 9, "strokes(.., 1), OUT", (x, v) -> x.strokes(v, 1));
            refusesBeyond(RefusedSentences::stuck, 1, 60, "strokes(9, ..), none", (x, v) -> x.strokes(9, v));
        });
        s.tells(25, "STATE: it is OUT.", () -> {
            refuses(RefusedSentences::out, STATE, "strokes(9, 60), OUT", x -> x.strokes(9, 60));
            refuses(RefusedSentences::stuckOut, STATE, "strokes(0, 1), OUT and none", x -> x.strokes(0, 1));
        });
        s.tells(25, "NONE: not by 20.", () -> {
            refuses(RefusedSentences::stuck, NONE, "strokes(9, 60)", x -> x.strokes(9, 60));
            PastTheRim x = Sentences.withLaws("9", "0");
            x.car(0, 30);
            s.due("by 21", x.strokes(9, 1), NONE);
            x.car(0, 29);
            s.due("by 20", x.strokes(9, 1), 20);
        });
    }

    private void rows() {
        s.tells(26, "BEYOND.", () -> {
            refusesBeyond(RefusedSentences::rich, 0, 3, "fits(.., -1)", (x, v) -> x.fits(v, -1));
            refusesBeyond(RefusedSentences::rich, -1, 2, "fits(0, ..)", (x, v) -> x.fits(0, v));
            refusesBeyond(RefusedSentences::rich, -1, 2, "fits(3, ..), missing", (x, v) -> x.fits(3, v));
        });
        s.tells(26, "NONE: the SHEET is missing, hasn't 1 to 3 numbers;", () -> {
            for (int what = -1; what < 3; what++) {
                int of = what;
                refuses(RefusedSentences::rich, NONE, "fits(3, " + what + "), missing", x -> x.fits(3, of));
                refuses(() -> withNumbers(0), NONE, "fits(1, " + what + "), no numbers", x -> x.fits(1, of));
                refuses(() -> withNumbers(4), NONE, "fits(1, " + what + "), four numbers", x -> x.fits(1, of));
                refuses(() -> withNumbers(24), NONE, "fits(1, " + what + "), 24 numbers", x -> x.fits(1, of));
            }
            for (int n = 1; n < 4; n++) {
                PastTheRim x = withNumbers(n);
                Sentences.text(x, 1, "99");
                s.due("fits(1, -1), " + n + " numbers", x.fits(1, -1), n == 1 ? 10 : n == 2 ? 100 : 1000);
            }
        });
        s.tells(26, "(what 0 and above) there is no row, or no such place in it.", () -> {
            for (int what = 0; what < 3; what++) {
                int of = what;
                refuses(RefusedSentences::stuck, NONE, "fits(0, " + what + "), no row", x -> x.fits(0, of));
            }
            s.due("fits(0, -1), no row", stuck().fits(0, -1), 0);
            refuses(RefusedSentences::oneFits, NONE, "fits(1, 1) of one number", x -> x.fits(1, 1));
            refuses(RefusedSentences::oneFits, NONE, "fits(1, 2) of one number", x -> x.fits(1, 2));
            s.due("fits(1, 0) of one number", oneFits().fits(1, 0), 0);
        });
        s.tells(27, "BEYOND.", () -> {
            refusesBeyond(RefusedSentences::rich, 1, 3, "odds(.., 0)", (x, v) -> x.odds(v, 0));
            refusesBeyond(RefusedSentences::rich, 0, 1, "odds(1, ..)", (x, v) -> x.odds(1, v));
            refusesBeyond(RefusedSentences::out, 1, 3, "odds(.., 0), OUT", (x, v) -> x.odds(v, 0));
        });
        s.tells(27, "STATE: it is OUT.", () -> {
            refuses(RefusedSentences::out, STATE, "odds(1, 0), OUT", x -> x.odds(1, 0));
            refuses(RefusedSentences::out, STATE, "odds(3, 1), OUT", x -> x.odds(3, 1));
        });
    }

    /** SHEET 1 has so many numbers, all 0. */
    private static PastTheRim withNumbers(int n) {
        PastTheRim x = rich();
        x.text(0);
        x.sheet(1, 16, n);
        return x;
    }

    private static PastTheRim oneFits() {
        PastTheRim x = withNumbers(1);
        Sentences.text(x, 1, "99");
        return x;
    }

    private void voices() {
        s.tells(28, "BEYOND.", () -> {
            refusesBeyond(RefusedSentences::rich, 0, 1, "voice(.., 0, 5)", (x, v) -> x.voice(v, 0, 5));
            refusesBeyond(RefusedSentences::rich, 0, 3, "voice(1, .., 5)", (x, v) -> x.voice(1, v, 5));
            refuses(RefusedSentences::nobody, BEYOND, "voice(0, 0, 5) of none", x -> x.voice(0, 0, 5));
            refuses(RefusedSentences::parting, BEYOND, "voice(1, 4, 5) of one that parts", x -> x.voice(1, 4, 5));
        });
        s.tells(28, "PARTED.", () -> {
            for (int v : new int[] {0, 1, -1, MIN, MAX}) {
                refuses(RefusedSentences::parting, PARTED, "voice(1, 3, " + v + ")", x -> x.voice(1, 3, v));
            }
            s.due("voice(1, 2, 5) of it", parting().voice(1, 2, 5), 3);
        });
        s.tells(29, "NONE: there is none such.", () -> {
            for (int i : new int[] {-1, 4, 5, 29, 30, 31, MIN, MAX}) {
                refuses(RefusedSentences::rich, NONE, "body(" + i + ")", x -> x.body(i));
            }
            s.due("the last", rich().body(3), 10);
            refuses(PastTheRim::new, NONE, "body(0) of a new object", x -> x.body(0));
        });
    }

    /** PUSHER 1 is a RHYTHM with m 1. */
    private static PastTheRim parting() {
        PastTheRim x = rich();
        x.become(1, 11);
        return x;
    }

    private void sheets() {
        s.tells(30, "BEYOND.", () -> {
            refusesBeyond(RefusedSentences::rich, 0, 3, "sheet(.., 8, 1)", (x, v) -> x.sheet(v, 8, 1));
            refusesBeyond(RefusedSentences::rich, 0, 3, "sheet(.., 0, 1)", (x, v) -> x.sheet(v, 0, 1));
            refusesBeyond(RefusedSentences::rich, 0, 3, "sheet(.., 8, -1)", (x, v) -> x.sheet(v, 8, -1));
            for (int bits : new int[] {-1, 1, 4, 7, 9, 15, 17, 24, 31, 33, 64, -8, MIN, MAX}) {
                refuses(RefusedSentences::rich, BEYOND, "sheet(0, " + bits + ", 1)", x -> x.sheet(0, bits, 1));
                refuses(RefusedSentences::rich, BEYOND, "sheet(0, " + bits + ", -1)", x -> x.sheet(0, bits, -1));
            }
        });
        s.tells(30, "STATE: n is below 0 (ahead of BEYOND of n).", () -> {
            for (int bits = 8; bits <= 32; bits *= 2) {
                int of = bits;
                for (int n : new int[] {-1, -24, MIN}) {
                    refuses(RefusedSentences::rich, STATE, "sheet(0, " + bits + ", " + n + ")", x -> x.sheet(0, of, n));
                }
                for (int n : new int[] {25, 256, MAX}) {
                    refuses(RefusedSentences::rich, BEYOND, "sheet(0, " + bits + ", " + n + ")", x -> x.sheet(0, of, n));
                }
            }
        });
        s.tells(31, "BEYOND: no such SHEET.", () -> {
            refusesBeyond(RefusedSentences::rich, 0, 3, "put(.., 0, 1)", (x, v) -> x.put(v, 0, 1));
            refuses(RefusedSentences::rich, BEYOND, "put(4, 9, 1)", x -> x.put(4, 9, 1));
        });
        s.tells(31, "NONE: it is missing.", () -> {
            for (int i : new int[] {0, -1, 24, MAX}) refuses(RefusedSentences::rich, NONE, "put(3, " + i + ", 1)", x -> x.put(3, i, 1));
        });
        s.tells(31, "BEYOND: no such number.", () -> {
            refusesBeyond(RefusedSentences::rich, 0, 2, "put(0, .., 1)", (x, v) -> x.put(0, v, 1));
            refusesBeyond(RefusedSentences::rich, 0, 0, "put(2, .., 1)", (x, v) -> x.put(2, v, 1));
            refuses(() -> withNumbers(0), BEYOND, "put(1, 0, 1) of no numbers", x -> x.put(1, 0, 1));
        });
    }

    private void moves() {
        s.tells(32, "BEYOND: no such SHEET.", () -> {
            refusesBeyond(RefusedSentences::rich, 0, 3, "move(.., 0, 2, 0, 1)", (x, v) -> x.move(v, 0, 2, 0, 1));
            refusesBeyond(RefusedSentences::rich, 0, 3, "move(0, 0, .., 0, 1)", (x, v) -> x.move(0, 0, v, 0, 1));
            refusesBeyond(RefusedSentences::rich, 0, 3, "move(.., 0, 3, 0, 1), other missing", (x, v) -> x.move(v, 0, 3, 0, 1));
            refusesBeyond(RefusedSentences::rich, 0, 3, "move(3, 0, .., 0, 1), missing", (x, v) -> x.move(3, 0, v, 0, 1));
            refuses(RefusedSentences::rich, BEYOND, "move(4, -1, 1, 9, -1)", x -> x.move(4, -1, 1, 9, -1));
        });
        s.tells(32, "NONE: one is missing.", () -> {
            refuses(RefusedSentences::rich, NONE, "move(3, 0, 0, 0, 1)", x -> x.move(3, 0, 0, 0, 1));
            refuses(RefusedSentences::rich, NONE, "move(0, 0, 3, 0, 1)", x -> x.move(0, 0, 3, 0, 1));
            refuses(RefusedSentences::rich, NONE, "move(3, 0, 3, 0, 0)", x -> x.move(3, 0, 3, 0, 0));
            refuses(RefusedSentences::rich, NONE, "move(3, -1, 0, 9, 99)", x -> x.move(3, -1, 0, 9, 99));
            refuses(RefusedSentences::rich, NONE, "move(1, -1, 3, 9, -1)", x -> x.move(1, -1, 3, 9, -1));
        });
        s.tells(32, "KIND: they are of unlike bits.", () -> {
            refuses(RefusedSentences::rich, KIND, "move(0, 0, 1, 0, 1)", x -> x.move(0, 0, 1, 0, 1));
            refuses(RefusedSentences::rich, KIND, "move(1, 0, 0, 0, 1)", x -> x.move(1, 0, 0, 0, 1));
            refuses(RefusedSentences::rich, KIND, "move(0, 0, 1, 0, 0)", x -> x.move(0, 0, 1, 0, 0));
            refuses(RefusedSentences::rich, KIND, "move(0, -1, 1, 0, 1)", x -> x.move(0, -1, 1, 0, 1));
            refuses(RefusedSentences::rich, KIND, "move(0, 0, 1, 99, 1)", x -> x.move(0, 0, 1, 99, 1));
            refuses(RefusedSentences::rich, KIND, "move(0, 0, 1, 0, -1)", x -> x.move(0, 0, 1, 0, -1));
            refuses(RefusedSentences::wide, KIND, "move(1, 0, 3, 0, 1), 16 and 32", x -> x.move(1, 0, 3, 0, 1));
        });
        s.tells(32, "BEYOND: n, i, or j is below 0, or they don't stand there.", () -> {
            refusesBeyond(RefusedSentences::rich, 0, 1, "move(0, 0, 2, 0, ..)", (x, v) -> x.move(0, 0, 2, 0, v));
            refusesBeyond(RefusedSentences::rich, 0, 2, "move(0, .., 2, 0, 1)", (x, v) -> x.move(0, v, 2, 0, 1));
            refusesBeyond(RefusedSentences::rich, 0, 0, "move(0, 0, 2, .., 1)", (x, v) -> x.move(0, 0, 2, v, 1));
            refusesBeyond(RefusedSentences::rich, 0, 3, "move(0, .., 2, 0, 0)", (x, v) -> x.move(0, v, 2, 0, 0));
            refusesBeyond(RefusedSentences::rich, 0, 1, "move(0, 0, 2, .., 0)", (x, v) -> x.move(0, 0, 2, v, 0));
            refusesBeyond(RefusedSentences::rich, 0, 3, "move(0, 0, 0, 0, ..)", (x, v) -> x.move(0, 0, 0, 0, v));
            refuses(RefusedSentences::rich, BEYOND, "move(2, 0, 0, 0, 2): one stands there", x -> x.move(2, 0, 0, 0, 2));
            refuses(RefusedSentences::rich, BEYOND, "move(0, 0, 2, 0, 2): one has room", x -> x.move(0, 0, 2, 0, 2));
            refuses(RefusedSentences::rich, BEYOND, "move(0, 1, 0, 0, 3)", x -> x.move(0, 1, 0, 0, 3));
            refuses(RefusedSentences::rich, BEYOND, "move(0, 0, 0, 1, 3)", x -> x.move(0, 0, 0, 1, 3));
            refuses(RefusedSentences::rich, BEYOND, "move(0, 1, 0, 1, MAX)", x -> x.move(0, 1, 0, 1, MAX));
            refuses(RefusedSentences::rich, BEYOND, "move(0, MAX, 0, 0, 1)", x -> x.move(0, MAX, 0, 0, 1));
            refuses(RefusedSentences::rich, BEYOND, "move(0, 0, 0, MAX, MAX)", x -> x.move(0, 0, 0, MAX, MAX));
            refuses(RefusedSentences::rich, BEYOND, "move(0, 3, 0, 0, -1)", x -> x.move(0, 3, 0, 0, -1));
        });
    }

    private static PastTheRim wide() {
        PastTheRim x = rich();
        Sentences.heights(x, 3, 32, 4, 5);
        return x;
    }

    private void wholeSheets() {
        s.tells(33, "BEYOND: no such SHEET.", () -> refusesBeyond(RefusedSentences::rich, 0, 3, "levels(..)", (x, v) -> x.levels(v)));
        s.tells(33, "NONE: it is missing.", () -> {
            refuses(RefusedSentences::rich, NONE, "levels(3)", x -> x.levels(3));
            refuses(RefusedSentences::nobody, NONE, "levels(3) of none", x -> x.levels(3));
        });
        s.tells(34, "BEYOND: no such SHEET.", () -> refusesBeyond(RefusedSentences::rich, 0, 3, "judge(..)", (x, v) -> x.judge(v)));
        s.tells(34, "NONE: it is missing.", () -> {
            refuses(RefusedSentences::rich, NONE, "judge(3)", x -> x.judge(3));
            refuses(RefusedSentences::out, NONE, "judge(3), OUT", x -> x.judge(3));
        });
    }

    private void rest() {
        s.tells(36, "NONE: there is none.", () -> {
            refuses(PastTheRim::new, NONE, "restore() of a new object", PastTheRim::restore);
            refuses(Sentences::atTheLastSwing, NONE, "restore() without an IMAGE", PastTheRim::restore);
            refuses(() -> Sentences.withPushers(5, 61), NONE, "restore() without an IMAGE", PastTheRim::restore);
        });
        s.tells(37, "FULL: 24 wait.", () -> {
            for (int v : new int[] {0, 7, -1, MIN, MAX}) refuses(RefusedSentences::waiting, FULL, "tell(" + v + ")", x -> x.tell(v));
            PastTheRim x = waiting();
            x.check();
            s.due("none wait any more", x.tell(5), 1);
        });
        s.tells(39, "BEYOND.", () -> refusesBeyond(RefusedSentences::rich, 0, 5, "count(..)", (x, v) -> x.count(v)));
        s.tells(40, "BEYOND: another k (counted, too).", () -> refusesBeyond(RefusedSentences::rich, 1, 6, "told(..)", (x, v) -> x.told(v)));
    }

    private static PastTheRim waiting() {
        PastTheRim x = rich();
        while (x.count(3) < 24) x.tell(x.count(3));
        return x;
    }
}
