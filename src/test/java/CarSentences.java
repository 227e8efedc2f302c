/** Sentences of the car, the pushers and the swings: terms 1, promises 1 to 9 and 14 to 17. */
final class CarSentences {
    private static final int TERMS = Sentences.TERMS;
    private static final int BEYOND = Sentences.BEYOND;

    private final Sentences s;

    CarSentences(Sentences s) {
        this.s = s;
    }

    void all() {
        carTerms();
        kindTerms();
        pushTerms();
        weightTerms();
        swingTerms();
        drawTerms();
        newObject();
        pushers();
        car();
        swings();
    }

    private void due(String call, long got, long want) {
        s.due(call, got, want);
    }

    /** Least and greatest are taken, what is next to them isn't. */
    private void bounds(int what, int first, int least, int most) {
        PastTheRim x = new PastTheRim();
        due("at first", x.carIs(what), first);
        due("car(" + what + ", " + most + ")", x.car(what, most), first);
        due("carIs", x.carIs(what), most);
        due("car(" + what + ", " + least + ")", x.car(what, least), most);
        due("carIs", x.carIs(what), least);
        due("too small", x.car(what, least - 1), BEYOND);
        due("too large", x.car(what, most + 1), BEYOND);
        due("carIs", x.carIs(what), least);
    }

    private void carTerms() {
        s.tells(TERMS, "1. THE CAR: DEPTH (of its hollow, 1 .. 60; 20 at first)", () -> bounds(0, 20, 1, 60));
        s.tells(TERMS, "ICE (0 .. 99; 0 at first)", () -> bounds(1, 0, 0, 99));
        s.tells(TERMS, "HEIGHT (0 .. 99; 0 at first)", () -> bounds(2, 0, 0, 99));
        s.tells(TERMS, "SIDE (0 back, as at first, 1 ahead)", () -> bounds(3, 0, 0, 1));
        s.tells(TERMS, "SAND (0 .. 99; 0 at first)", () -> bounds(4, 0, 0, 99));
        s.tells(TERMS, "OUT or not (at first).", () -> {
            PastTheRim x = new PastTheRim();
            due("carIs(5)", x.carIs(5), 0);
            due("swing(0) isn't STATE", x.swing(0), 0);
        });
        s.tells(TERMS, "SWING (0 .. 9999; 0 at first)", () -> {
            due("at first", new PastTheRim().count(1), 0);
            PastTheRim x = Sentences.atTheLastSwing();
            due("at last", x.count(1), 9999);
            due("swing(0)", x.swing(0), Sentences.STATE);
            due("no more", x.count(1), 9999);
        });
        s.tells(TERMS, "OUTS (how often it came OUT; 0 at first; held at 9999)", this::outs);
    }

    /** No run of swings comes beyond 9999 OUTS, since SWING ends there, too. */
    private void outs() {
        PastTheRim x = new PastTheRim();
        due("at first", x.carIs(6), 0);
        for (int i = 1; i <= 9999; i++) {
            x.park(1);
            x.swing(9);
            if (i == 1 || i == 2 || i == 255 || i == 9999) due("OUTS", x.carIs(6), i);
        }
        x.park(1);
        x.swing(9);
        due("held", x.carIs(6), 9999);
    }

    private void kindTerms() {
        s.tells(TERMS, "PUSHERS 0, 1, .. (at most 6)", () -> {
            PastTheRim x = new PastTheRim();
            for (int i = 0; i < 6; i++) due("pusher(1)", x.pusher(1), i);
            due("a seventh", x.pusher(1), Sentences.FULL);
            due("count(0)", x.count(0), 6);
            due("the sixth", x.pusherIs(5, 1), 1);
            due("no seventh", x.pusherIs(6, 1), BEYOND);
        });
        String[] kinds = {"of KINDS: 0 PUSHER", "1 RHYTHM under PUSHER", "2 LATE under PUSHER", "3 BACKER under PUSHER",
            "4 LEADER under RHYTHM", "5 TIRED under LATE", "6 SITTER under PUSHER"};
        String[] of = {"0", "10", "20", "30", "410", "520", "60"};
        for (int i = 0; i < 7; i++) {
            int kind = i;
            s.tells(TERMS, kinds[i], () -> under(kind, of[kind]));
        }
        s.tells(TERMS, "each with a number m (0 .. 9).", () -> {
            PastTheRim x = Sentences.withPushers(9, 10, 69);
            due("KIND of 9", x.pusherIs(0, 0), 0);
            due("m of 9", x.pusherIs(0, 1), 9);
            due("KIND of 10", x.pusherIs(1, 0), 1);
            due("m of 10", x.pusherIs(1, 1), 0);
            due("m of 69", x.pusherIs(2, 1), 9);
        });
    }

    private void under(int kind, String of) {
        PastTheRim x = Sentences.withPushers(10 * kind + 7);
        for (int other = 0; other < 7; other++) {
            boolean is = of.indexOf('0' + other) >= 0;
            due("as(0, " + other + ")", x.as(0, other), is ? 7 : Sentences.KIND);
        }
    }

    /** PUSH of one that is alone, with SIDE and HEIGHT told, behind so many swings. */
    private void push(int km, int side, int height, int swing, int want) {
        PastTheRim x = new PastTheRim();
        x.car(0, 60);
        Sentences.swingsOn(x, swing);
        x.pusher(km);
        x.car(3, side);
        x.car(2, height);
        String when = " of " + km + ", SIDE " + side + ", HEIGHT " + height + ", SWING " + swing;
        due("PUSH" + when, x.pusherIs(0, 2), want);
        due("PUSH of all" + when, x.now(1), want);
    }

    private void pushTerms() {
        s.tells(TERMS, "PUSH (it goes ahead next, if SIDE is 0): PUSHER: m, if it goes ahead, else 0.", () -> {
            push(5, 0, 0, 0, 5);
            push(5, 1, 0, 0, 0);
            push(0, 0, 0, 0, 0);
            push(9, 0, 99, 1, 9);
            push(9, 1, 99, 1, 0);
        });
        s.tells(TERMS, "RHYTHM: as PUSHER, and 2 more, if it goes ahead.", () -> {
            push(10, 0, 0, 0, 2);
            push(19, 0, 50, 1, 11);
            push(19, 1, 50, 0, 0);
        });
        s.tells(TERMS, "LATE: as PUSHER, if SWING is even, else 0.", () -> {
            push(29, 0, 0, 0, 9);
            push(29, 0, 0, 1, 0);
            push(29, 0, 0, 2, 9);
            push(29, 1, 0, 0, 0);
            push(29, 1, 0, 1, 0);
            push(20, 0, 0, 0, 0);
        });
        s.tells(TERMS, "BACKER: m, if it does not go ahead, else 0.", () -> {
            push(39, 1, 0, 0, 9);
            push(39, 0, 0, 0, 0);
            push(30, 1, 0, 0, 0);
        });
        s.tells(TERMS, "LEADER: as RHYTHM, and HEIGHT by 8 (cut; ahead or not).", this::leaders);
        s.tells(TERMS, "TIRED: as LATE, less SWING by 8 (cut; 0 at least).", this::tired);
        s.tells(TERMS, "SITTER: 0.", () -> {
            push(69, 0, 99, 0, 0);
            push(69, 1, 99, 0, 0);
        });
    }

    private void leaders() {
        push(49, 0, 0, 0, 11);
        push(49, 0, 7, 0, 11);
        push(49, 0, 8, 0, 12);
        push(49, 0, 15, 0, 12);
        push(49, 0, 16, 0, 13);
        push(40, 0, 99, 0, 14);
        push(49, 1, 7, 0, 0);
        push(49, 1, 8, 0, 1);
        push(49, 1, 99, 1, 12);
    }

    private void tired() {
        push(59, 0, 0, 0, 9);
        push(59, 0, 0, 6, 9);
        push(59, 0, 0, 7, 0);
        push(59, 0, 0, 8, 8);
        push(59, 0, 0, 14, 8);
        push(59, 0, 0, 16, 7);
        push(51, 0, 0, 8, 0);
        push(51, 0, 0, 16, 0);
        push(59, 1, 0, 8, 0);
        push(59, 0, 0, 72, 0);
        push(59, 0, 0, 80, 0);
    }

    private void weightTerms() {
        s.tells(TERMS, "WEIGHT: SITTER: m; all others 0.", () -> {
            PastTheRim x = Sentences.withPushers(0);
            for (int kind = 0; kind < 7; kind++) {
                x.become(0, 10 * kind + 9);
                due("WEIGHT of KIND " + kind, x.pusherIs(0, 3), kind == 6 ? 9 : 0);
                due("GRIP", x.now(0), kind == 6 ? 18 : 9);
            }
            x.become(0, 60);
            due("m is 0", x.pusherIs(0, 3), 0);
        });
        s.tells(TERMS, "GRIP: what the TEXT of that USE gives (WEIGHT of all together), and 3 more, if SAND isn't 0.", this::grips);
        s.tells(TERMS, "RUB: what the TEXT of that USE gives.", () -> {
            PastTheRim x = Sentences.withLaws("1", "h*2+d");
            x.car(2, 30);
            x.car(4, 5);
            due("no more by SAND", x.now(2), 80);
            x.car(2, 50);
            due("held", x.now(2), 99);
        });
    }

    private void grips() {
        PastTheRim x = Sentences.withPushers(69, 9, 68, 67);
        Sentences.text(x, 0, "w*2");
        due("WEIGHT of all", x.now(0), 48);
        x.car(4, 1);
        due("SAND 1", x.now(0), 51);
        x.car(4, 99);
        due("SAND 99", x.now(0), 51);
        Sentences.text(x, 0, "100");
        due("held, and 3 more", x.now(0), 102);
        Sentences.text(x, 0, "0-9");
        due("held, and 3 more", x.now(0), 3);
        x.car(4, 0);
        due("SAND 0", x.now(0), 0);
    }

    private void swingTerms() {
        s.tells(TERMS, "A SWING with gas g (0 .. 9): GRIP, PUSH of all together, RUB are as ahead of it.", this::asAhead);
        s.tells(TERMS, "If g is above GRIP, it SPINS:", () -> {
            PastTheRim x = Sentences.withLaws("5", "0");
            x.car(0, 60);
            due("below GRIP", x.would(4, 3), 0);
            due("as GRIP", x.would(5, 3), 0);
            due("above GRIP", x.would(6, 3), 1);
            due("as GRIP it counts", x.swing(5), 5);
            due("above GRIP it doesn't", x.swing(6), 5);
        });
        s.tells(TERMS, "ICE is as much more as g is above GRIP (99 at most),", this::icier);
        s.tells(TERMS, "DEPTH 1 more (60 at most),", () -> {
            PastTheRim x = Sentences.withLaws("0", "0");
            x.swing(9);
            due("1 more, not by g", x.carIs(0), 21);
            x.car(0, 59);
            x.swing(1);
            due("59 and 1", x.carIs(0), 60);
            x.swing(1);
            due("at most", x.carIs(0), 60);
        });
        s.tells(TERMS, "SAND 1 less (0 at least),", this::sandFlies);
        s.tells(TERMS, "and g counts nothing.", () -> {
            PastTheRim x = Sentences.withLaws("0", "0");
            x.car(0, 60);
            x.car(2, 10);
            due("swing(9)", x.swing(9), 10);
            x.pusher(35);
            due("PUSH counts", x.swing(9), 15);
        });
        s.tells(TERMS, "HEIGHT is more by g (if it counts) and PUSH, less by RUB (held within 0 .. 99).", this::heightIs);
        s.tells(TERMS, "SIDE is the other one; SWING is 1 more.", () -> {
            PastTheRim x = new PastTheRim();
            for (int i = 1; i < 4; i++) {
                x.swing(i == 2 ? 9 : 0);
                due("SIDE", x.carIs(3), i % 2);
                due("SWING", x.count(1), i);
            }
            Sentences.text(x, 0, "0");
            x.swing(9);
            due("SIDE by a spin", x.carIs(3), 0);
            due("SWING by a spin", x.count(1), 4);
        });
        s.tells(TERMS, "If HEIGHT is DEPTH or more then, it is OUT (OUTS is 1 more).", this::comesOut);
    }

    private void asAhead() {
        PastTheRim x = Sentences.withLaws("9", "n*9");
        due("RUB by SWING 0", x.swing(9), 9);
        due("RUB by SWING 1", x.swing(9), 9);
        x = Sentences.parked(Sentences.withLaws("9", "h"), 60, 10);
        due("RUB by HEIGHT 10", x.swing(9), 9);
        x = Sentences.parked(Sentences.withLaws("0", "d"), 20, 50);
        due("RUB by DEPTH 20", x.swing(1), 30);
        x = Sentences.withLaws("d-15", "0");
        x.swing(7);
        due("GRIP by DEPTH 20", x.carIs(1), 2);
        x = Sentences.withLaws("0", "0");
        x.car(4, 1);
        x.swing(5);
        due("GRIP by SAND 1", x.carIs(1), 2);
        x = Sentences.parked(Sentences.withPushers(5, 14, 29, 33, 45), 60, 16);
        Sentences.text(x, 1, "0");
        due("PUSH by SIDE 0, SWING 0, HEIGHT 16", x.swing(0), 16 + 5 + 6 + 9 + 7 + 2);
        due("PUSH by SIDE 1, SWING 1, HEIGHT 45", x.swing(0), 45 + 3 + 5);
    }

    private void icier() {
        PastTheRim x = Sentences.withLaws("2", "4");
        x.car(0, 60);
        x.swing(3);
        due("1 above", x.carIs(1), 1);
        x.swing(9);
        due("7 above", x.carIs(1), 8);
        x.car(1, 91);
        x.swing(9);
        due("91 and 7", x.carIs(1), 98);
        x.car(1, 92);
        x.swing(9);
        due("92 and 7", x.carIs(1), 99);
        x.car(1, 93);
        x.swing(9);
        due("99 at most", x.carIs(1), 99);
        x.swing(3);
        due("99 at most", x.carIs(1), 99);
    }

    private void sandFlies() {
        PastTheRim x = Sentences.withLaws("0", "4");
        x.car(4, 2);
        x.swing(3);
        due("no spin", x.carIs(4), 2);
        x.swing(9);
        due("1 less, not by g", x.carIs(4), 1);
        x.swing(4);
        due("1 and 1 less", x.carIs(4), 0);
        x.swing(4);
        due("0 at least", x.carIs(4), 0);
    }

    private void heightIs() {
        PastTheRim x = Sentences.withPushers(5);
        Sentences.text(x, 1, "3");
        Sentences.parked(x, 60, 10);
        due("10 and 9 and 5, less 3", x.swing(9), 21);
        heightBehind("99", 95, 0, 0);
        heightBehind("99", 99, 1, 1);
        heightBehind("99", 99, 0, 0);
        heightBehind("2", 0, 1, 0);
        heightBehind("2", 2, 1, 1);
        heightBehind("2", 0, 2, 0);
        heightBehind("0", 91, 8, 99);
        heightBehind("0", 91, 9, 99);
        heightBehind("0", 90, 9, 99);
        heightBehind("0", 90, 8, 98);
        heightBehind("10", 95, 9, 94);
    }

    private void heightBehind(String rub, int height, int gas, int want) {
        PastTheRim x = Sentences.parked(Sentences.withLaws("9", rub), 60, height);
        due("HEIGHT " + height + " and " + gas + ", less " + rub, x.swing(gas), want);
        due("carIs(2)", x.carIs(2), want);
    }

    private void comesOut() {
        outBehind("9", 10, 0, 9, 0);
        outBehind("9", 9, 0, 9, 1);
        outBehind("9", 8, 0, 9, 1);
        outBehind("9", 10, 5, 9, 1);
        outBehind("0", 10, 10, 1, 0);
        outBehind("0", 10, 11, 1, 1);
        outBehind("0", 60, 60, 1, 1);
        outBehind("0", 60, 59, 1, 0);
        PastTheRim x = Sentences.parked(new PastTheRim(), 5, 6);
        due("not OUT ahead of a SWING", x.carIs(5), 0);
        due("HEIGHT less than DEPTH then", x.swing(0), 4);
        due("not OUT", x.carIs(5), 0);
        due("OUTS", x.carIs(6), 0);
    }

    private void outBehind(String grip, int depth, int height, int gas, int want) {
        PastTheRim x = Sentences.parked(Sentences.withLaws(grip, "0"), depth, height);
        x.swing(gas);
        String when = "GRIP " + grip + ", DEPTH " + depth + ", HEIGHT " + height + ", gas " + gas;
        due("OUT: " + when, x.carIs(5), want);
        due("OUTS: " + when, x.carIs(6), want);
    }

    private void drawTerms() {
        s.tells(TERMS, "BY DRAWS a SWING: gas is a draw's rest by 10.", () -> {
            PastTheRim x = Sentences.withLaws("9", "0");
            x.car(0, 60);
            int[] gas = {4, 2, 6, 3, 7, 6, 0, 6};
            int height = 0;
            for (int g : gas) {
                x.swings(1);
                height += g;
                due("HEIGHT", x.carIs(2), height);
            }
        });
        s.tells(TERMS, "DRAWS: z is told (1 at first); each makes it z * 1103515245 + 12345 (an int), and gives z >>> 8.", () -> {
            PastTheRim x = new PastTheRim();
            due("at first", x.count(5), 1);
            int[] z = {1103527590, -1770082073, 662824084, -999580867};
            for (int v : z) {
                x.swings(1);
                due("z", x.count(5), v);
            }
            PastTheRim y = Sentences.withLaws("9", "0");
            y.seed(-112468174);
            y.swings(1);
            due("z below 0", y.count(5), -1778682749);
            due("9829236 by 10", y.carIs(2), 6);
            y.seed(Integer.MAX_VALUE);
            y.swings(1);
            due("z wraps", y.count(5), 1043980748);
        });
    }

    private void newObject() {
        s.tells(1, "All as at first; no PUSHERS, no TEXTS.", () -> {
            PastTheRim x = new PastTheRim();
            int[] car = {20, 0, 0, 0, 0, 0, 0};
            for (int i = 0; i < 7; i++) due("carIs(" + i + ")", x.carIs(i), car[i]);
            int[] counts = {0, 0, 0, 0, 0, 1};
            for (int i = 0; i < 6; i++) due("count(" + i + ")", x.count(i), counts[i]);
            for (int k = 1; k < 7; k++) due("told(" + k + ")", x.told(k), 0);
            for (int i = 0; i < 4; i++) due("put(" + i + ", 0, 0)", x.put(i, 0, 0), Sentences.NONE);
            due("body(0)", x.body(0), Sentences.NONE);
            due("restore()", x.restore(), Sentences.NONE);
            due("untell(0)", x.untell(0), 0);
            due("untell(1)", x.untell(1), 0);
            due("leaves()", x.leaves(), Sentences.STATE);
            due("check()", x.check(), 0);
            due("the tape is empty", x.text(0), -10);
            due("image()", x.image(), 1);
        });
    }

    private void pushers() {
        s.tells(2, "One more PUSHER (km: 10 times the KIND, and m): the number.", () -> {
            for (int km = 0; km < 70; km++) {
                PastTheRim x = Sentences.withPushers(0);
                due("pusher(" + km + ")", x.pusher(km), 1);
                due("KIND", x.pusherIs(1, 0), km / 10);
                due("m", x.pusherIs(1, 1), km % 10);
            }
        });
        s.tells(3, "Of a PUSHER: 0 KIND, 1 m, 2 PUSH, 3 WEIGHT.", () -> {
            PastTheRim x = Sentences.withPushers(14, 0, 0, 0, 0, 65);
            int[] first = {1, 4, 6, 0};
            int[] last = {6, 5, 0, 5};
            for (int what = 0; what < 4; what++) {
                due("pusherIs(0, " + what + ")", x.pusherIs(0, what), first[what]);
                due("pusherIs(5, " + what + ")", x.pusherIs(5, what), last[what]);
            }
        });
        s.tells(4, "A PUSHER becomes one of a KIND, with m (km): the KIND that it was.", () -> {
            for (int km = 0; km < 70; km++) {
                PastTheRim one = Sentences.withPushers(34);
                due("become(0, " + km + ")", one.become(0, km), 3);
                due("KIND", one.pusherIs(0, 0), km / 10);
                due("m", one.pusherIs(0, 1), km % 10);
            }
            PastTheRim x = Sentences.withPushers(47, 12, 3, 4, 5, 6);
            due("become(0, 0)", x.become(0, 0), 4);
            due("become(0, 69)", x.become(0, 69), 0);
            due("become(5, 9)", x.become(5, 9), 0);
            due("become(0, 69)", x.become(0, 69), 6);
            due("m", x.pusherIs(0, 1), 9);
            due("m", x.pusherIs(5, 1), 9);
            due("KIND of another stays", x.pusherIs(1, 0), 1);
            due("m of another stays", x.pusherIs(1, 1), 2);
            due("as many", x.count(0), 6);
        });
        s.tells(5, "A PUSHER as one of a KIND: m.", () -> {
            PastTheRim x = Sentences.withPushers(69, 49, 0);
            due("of its own", x.as(0, 6), 9);
            due("of the one above", x.as(1, 1), 9);
            due("of the topmost", x.as(1, 0), 9);
            due("m is 0", x.as(2, 0), 0);
        });
        s.tells(6, "The last of the PUSHERS goes: how many there are.", () -> {
            PastTheRim x = Sentences.withPushers(1, 62, 3);
            due("leaves()", x.leaves(), 2);
            due("it is gone", x.pusherIs(2, 1), BEYOND);
            due("the one ahead stays", x.pusherIs(1, 1), 2);
            due("leaves()", x.leaves(), 1);
            due("it weighs nothing any more", x.now(0), 9);
            due("leaves()", x.leaves(), 0);
            due("count(0)", x.count(0), 0);
            due("pusher(35)", x.pusher(35), 0);
            due("m", x.pusherIs(0, 1), 5);
        });
    }

    private void car() {
        s.tells(7, "DEPTH (what 0), ICE (1), HEIGHT (2), SIDE (3), SAND (4) becomes v: what it was (OUT stays as it is).", () -> {
            PastTheRim x = new PastTheRim();
            int[] v = {31, 12, 13, 1, 15};
            for (int what = 0; what < 5; what++) due("car(" + what + ", ..)", x.car(what, v[what]), what == 0 ? 20 : 0);
            for (int what = 0; what < 5; what++) due("carIs(" + what + ")", x.carIs(what), v[what]);
            x.car(2, 99);
            due("HEIGHT is DEPTH and more: not OUT", x.carIs(5), 0);
            x.swing(0);
            due("OUT by a SWING", x.carIs(5), 1);
            x.car(2, 0);
            x.car(0, 60);
            due("HEIGHT is less: OUT still", x.carIs(5), 1);
            due("OUTS", x.carIs(6), 1);
        });
        s.tells(8, "0 DEPTH, 1 ICE, 2 HEIGHT, 3 SIDE, 4 SAND, 5 whether it is OUT, 6 OUTS.", () -> {
            PastTheRim x = Sentences.comeOut();
            x.park(3);
            x.car(1, 98);
            x.car(4, 77);
            x.swing(9);
            x.swing(9);
            x.car(2, 55);
            x.swing(0);
            int[] want = {5, 99, 53, 1, 75, 1, 2};
            for (int what = 0; what < 7; what++) due("carIs(" + what + ")", x.carIs(what), want[what]);
        });
        s.tells(9, "It stands in another hollow of that DEPTH: ICE, HEIGHT, SIDE 0, not OUT: OUTS.", () -> {
            for (int depth : new int[] {1, 33, 60}) {
                PastTheRim x = new PastTheRim();
                for (int i = 0; i < 3; i++) x.swing(0);
                x.car(2, 90);
                x.swing(0);
                x.car(1, 40);
                x.car(3, 1);
                x.car(4, 7);
                due("park(" + depth + ")", x.park(depth), 1);
                int[] want = {depth, 0, 0, 0, 7, 0, 1};
                for (int i = 0; i < 7; i++) due("carIs(" + i + ")", x.carIs(i), want[i]);
                due("SWING", x.count(1), 4);
            }
            due("OUTS 0", new PastTheRim().park(1), 0);
        });
    }

    private void swings() {
        s.tells(14, "A SWING: HEIGHT.", () -> {
            PastTheRim x = new PastTheRim();
            due("swing(9)", x.swing(9), 5);
            due("swing(0)", x.swing(0), 1);
            due("carIs(2)", x.carIs(2), 1);
            due("count(1)", x.count(1), 2);
        });
        s.tells(15, "n (1 .. 40) SWINGS BY DRAWS, till it is OUT, or SWING 9999: how many were done.", this::manySwings);
        s.tells(16, "n (1 .. 20) strokes with a shovel: DEPTH is 1 less (1 at least), ICE 2 less (0 at least) by each: DEPTH.", this::shovels);
        s.tells(17, "z becomes v: what it was (any number).", () -> {
            PastTheRim x = new PastTheRim();
            int[] v = {0, Sentences.MIN, Sentences.MAX, BEYOND, Sentences.PARTED, -1, 7};
            int was = 1;
            for (int z : v) {
                due("seed(" + z + ")", x.seed(z), was);
                due("count(5)", x.count(5), z);
                was = z;
            }
            for (int k = 1; k < 7; k++) due("told(" + k + ")", x.told(k), 0);
        });
    }

    private void manySwings() {
        PastTheRim x = Sentences.withLaws("9", "99");
        due("swings(1)", x.swings(1), 1);
        due("swings(40)", x.swings(40), 40);
        due("SWING", x.count(1), 41);
        x = Sentences.withLaws("9", "0");
        x.car(0, 15);
        due("4, 2, 6, 3 by draws: OUT", x.swings(40), 4);
        due("HEIGHT", x.carIs(2), 15);
        due("no more draws", x.count(5), -999580867);
        x.park(16);
        x.seed(1);
        due("n is less than till OUT", x.swings(4), 4);
        due("HEIGHT", x.carIs(2), 15);
        due("not OUT", x.carIs(5), 0);
        due("with the next", x.swings(40), 1);
        x = new PastTheRim();
        Sentences.swingsOn(x, 9997);
        Sentences.text(x, 1, "99");
        due("till SWING 9999", x.swings(40), 2);
        due("SWING", x.count(1), 9999);
    }

    private void shovels() {
        shovel(20, 9, 1, 19, 7);
        shovel(20, 9, 20, 1, 0);
        shovel(21, 40, 20, 1, 0);
        shovel(22, 41, 20, 2, 1);
        shovel(60, 99, 20, 40, 59);
        shovel(2, 1, 1, 1, 0);
        shovel(1, 2, 1, 1, 0);
        shovel(1, 0, 1, 1, 0);
        shovel(1, 99, 20, 1, 59);
        PastTheRim x = Sentences.comeOut();
        x.car(0, 30);
        due("shovel(3), OUT", x.shovel(3), 27);
        due("OUT still", x.carIs(5), 1);
    }

    private void shovel(int depth, int ice, int n, int depthThen, int iceThen) {
        PastTheRim x = Sentences.parked(new PastTheRim(), depth, 40);
        x.car(1, ice);
        String call = "shovel(" + n + ") of DEPTH " + depth + ", ICE " + ice;
        due(call, x.shovel(n), depthThen);
        due("DEPTH by " + call, x.carIs(0), depthThen);
        due("ICE by " + call, x.carIs(1), iceThen);
        due("HEIGHT stays", x.carIs(2), 40);
        due("not OUT by it", x.carIs(5), 0);
        due("no SWING", x.count(1), 0);
    }
}
