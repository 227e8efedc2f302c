/** Sentences of voices, sheets, images and what is told: terms 4, promises 28 to 40. */
final class VoiceSentences {
    private static final int TERMS = Sentences.TERMS;
    private static final int BEYOND = Sentences.BEYOND;
    private static final int NONE = Sentences.NONE;
    private static final int PARTED = Sentences.PARTED;
    private static final int MIN = Sentences.MIN;
    private static final int MAX = Sentences.MAX;
    private static final int HEAVES = 0;
    private static final int SLIPS = 1;
    private static final int CURSES = 2;
    private static final int PARTS = 3;

    private final Sentences s;

    VoiceSentences(Sentences s) {
        this.s = s;
    }

    void all() {
        voiceTerms();
        bodies();
        kinds();
        sheetTerms();
        voices();
        sheets();
        moves();
        levels();
        judges();
        images();
        waits();
        counts();
    }

    private void due(String call, long got, long want) {
        s.due(call, got, want);
    }

    /** A voice of one with a number, of KIND and m: what it answers, and which BODIES began. */
    private void says(int km, int number, int voice, int x, int want, int... bodies) {
        PastTheRim p = new PastTheRim();
        for (int i = 0; i < number; i++) p.pusher(0);
        p.pusher(km);
        String call = "voice " + voice + " of " + km + " as " + number + ", x " + x;
        due(call, p.voice(number, voice, x), want);
        due("BODIES of " + call, p.count(4), bodies.length);
        for (int i = 0; i < bodies.length; i++) due("body(" + i + ") of " + call, p.body(i), bodies[i]);
        due("body behind the last of " + call, p.body(bodies.length), NONE);
    }

    private void voiceTerms() {
        s.tells(TERMS, "4. VOICES of a Pusher, with a number x (ints that wrap);", () -> {
            says(0, 1, HEAVES, MAX, MIN, 10);
            says(0, 0, SLIPS, 1 << 30, MIN, 11, 10);
            says(9, 0, CURSES, -1 << 30, MAX - 8, 12, 11, 10);
            says(0, 1, PARTS, MIN, MIN, 13);
            says(10, 0, HEAVES, MIN, MAX - 3, 20, 10);
            says(11, 0, PARTS, MIN, MAX - 5, 21, 13, 11, 20, 10);
            says(20, 0, SLIPS, 1 << 30, MIN, 30, 11, 10);
            says(40, 0, HEAVES, MAX, MAX - 14, 50, 20, 10);
            says(50, 0, SLIPS, MAX, 0, 60, 30, 11, 10);
        });
        s.tells(TERMS, "k is the number, m as told:", () -> {
            says(0, 0, HEAVES, 7, 7, 10);
            says(0, 5, HEAVES, 7, 12, 10);
            says(9, 2, PARTS, 70, 10, 13);
            PastTheRim x = Sentences.withPushers(0, 1);
            x.become(1, 9);
            due("m as become() told", x.voice(1, PARTS, 80), 10);
            Sentences.heights(x, 0, 8, 0, 5);
            x.levels(0);
            due("m as levels() told", x.voice(1, PARTS, 80), 20);
            x.leaves();
            x.leaves();
            x.pusher(3);
            due("the number is another", x.voice(0, HEAVES, 80), 80);
        });
        s.tells(TERMS, "0 heaves, 1 slips, 2 curses, 3 parts.", () -> {
            says(0, 1, 0, 5, 6, 10);
            says(0, 1, 1, 5, 12, 11, 10);
            says(3, 1, 2, 5, 9, 12, 11, 10);
            says(3, 1, 3, 5, 2, 13);
        });
    }

    private void bodies() {
        s.tells(TERMS, "BODIES: Pusher: 10 heaves: x + k.", () -> says(9, 2, HEAVES, -7, -5, 10));
        s.tells(TERMS, "11 slips: heaves(x) * 2.", () -> says(9, 2, SLIPS, 7, 18, 11, 10));
        s.tells(TERMS, "12 curses: slips(x) - m.", () -> says(9, 2, CURSES, 7, 9, 12, 11, 10));
        s.tells(TERMS, "13 parts: x by (m - k), cut (PARTED if that is 0; that is all that voice() answers then).", () -> {
            says(4, 2, PARTS, 7, 3, 13);
            says(4, 2, PARTS, -7, -3, 13);
            says(2, 4, PARTS, 7, -3, 13);
            says(2, 4, PARTS, -7, 3, 13);
            says(4, 2, PARTS, 0, 0, 13);
            says(0, 0, PARTS, 7, PARTED, 13);
            says(5, 5, PARTS, 0, PARTED, 13);
            says(22, 2, PARTS, MIN, PARTED, 13);
            says(12, 2, PARTS, 7, PARTED, 21, 13);
        });
        s.tells(TERMS, "Rhythm: 20 heaves: super.heaves(x) - 4.", () -> says(19, 2, HEAVES, 7, 5, 20, 10));
        s.tells(TERMS, "21 parts: super.parts(x) + slips(1).", () -> says(14, 2, PARTS, 7, 3 - 2, 21, 13, 11, 20, 10));
        s.tells(TERMS, "Late: 30 slips: 0 - super.slips(x).", () -> says(29, 2, SLIPS, 7, -18, 30, 11, 10));
        s.tells(TERMS, "Backer: 40 curses: super.curses(x / 2).", () -> {
            says(34, 2, CURSES, 8, 8, 40, 12, 11, 10);
            says(34, 2, CURSES, 9, 8, 40, 12, 11, 10);
            says(34, 2, CURSES, -7, -6, 40, 12, 11, 10);
            says(34, 2, CURSES, 1, 0, 40, 12, 11, 10);
        });
        s.tells(TERMS, "Leader: 50 heaves: super.heaves(x) * 3.", () -> says(49, 2, HEAVES, 7, 15, 50, 20, 10));
        s.tells(TERMS, "51 curses: super.curses(x) ^ k.", () -> {
            says(44, 2, CURSES, 7, 24, 51, 12, 11, 50, 20, 10);
            says(44, 3, CURSES, -9, -61, 51, 12, 11, 50, 20, 10);
        });
        s.tells(TERMS, "Tired: 60 slips: super.slips(x + 1).", () -> says(59, 2, SLIPS, 7, -20, 60, 30, 11, 10));
        s.tells(TERMS, "Sitter: 70 heaves: 9.", () -> says(64, 2, HEAVES, 7, 9, 70));
        s.tells(TERMS, "71 slips: super.slips(x) + m.", () -> says(64, 2, SLIPS, 7, 22, 71, 11, 70));
    }

    private void kinds() {
        s.tells(TERMS, "heaves(..) is the BODY of its KIND, or of the next KIND above that has one;", () -> {
            says(14, 2, SLIPS, 7, 10, 11, 20, 10);
            says(14, 2, CURSES, 7, 6, 12, 11, 20, 10);
            says(24, 2, HEAVES, 7, 9, 10);
            says(24, 2, CURSES, 7, -22, 12, 30, 11, 10);
            says(24, 2, PARTS, 7, 3, 13);
            says(34, 2, HEAVES, 7, 9, 10);
            says(34, 2, SLIPS, 7, 18, 11, 10);
            says(34, 2, PARTS, 7, 3, 13);
            says(44, 2, SLIPS, 7, 30, 11, 50, 20, 10);
            says(54, 2, HEAVES, 7, 9, 10);
            says(54, 2, CURSES, 7, -24, 12, 60, 30, 11, 10);
            says(54, 2, PARTS, 7, 3, 13);
            says(64, 2, CURSES, 7, 18, 12, 71, 11, 70);
            says(64, 2, PARTS, 7, 3, 13);
        });
        s.tells(TERMS, "super.heaves(..) that from the KIND above the BODY's on.", () -> {
            says(44, 2, HEAVES, 0, -6, 50, 20, 10);
            says(44, 2, CURSES, 0, -16 ^ 2, 51, 12, 11, 50, 20, 10);
            says(44, 2, PARTS, 7, 3 - 6, 21, 13, 11, 50, 20, 10);
            says(54, 2, SLIPS, 0, -6, 60, 30, 11, 10);
        });
        s.tells(TERMS, "THE TRACE: the numbers of BODIES of the latest voice(), as they began (what stands left is worked out first), "
            + "the first 30.", () -> {
            PastTheRim x = Sentences.withPushers(44, 0);
            x.voice(0, PARTS, 1);
            traceIs(x, 21, 13, 11, 50, 20, 10);
            x.voice(1, CURSES, 1);
            traceIs(x, 12, 11, 10);
            x.voice(1, HEAVES, 1);
            traceIs(x, 10);
            x.voice(1, 4, 1);
            traceIs(x, 10);
            x.become(0, 0);
            due("PARTED", x.voice(0, PARTS, 1), PARTED);
            traceIs(x, 13);
            due("one behind PARTED", x.voice(0, SLIPS, 1), 2);
            traceIs(x, 11, 10);
        });
    }

    private void traceIs(PastTheRim x, int... bodies) {
        due("count(4)", x.count(4), bodies.length);
        for (int i = 0; i < bodies.length; i++) due("body(" + i + ")", x.body(i), bodies[i]);
        for (int i = bodies.length; i < 32; i++) due("body(" + i + ")", x.body(i), NONE);
    }

    private void sheetTerms() {
        s.tells(TERMS, "SHEETS 0 .. 3 are rows of 8, 16, 32 bits, at most 24 numbers, or missing (as at first).", () -> {
            PastTheRim x = new PastTheRim();
            for (int sheet = 0; sheet < 4; sheet++) {
                due("missing at first", x.put(sheet, 0, 1), NONE);
                for (int bits = 8; bits <= 32; bits *= 2) {
                    due("sheet(" + sheet + ", " + bits + ", 24)", x.sheet(sheet, bits, 24), 1);
                    due("the last", x.put(sheet, 23, 1), 1);
                    due("behind the last", x.put(sheet, 24, 1), BEYOND);
                    due("sheet(" + sheet + ", " + bits + ", 25)", x.sheet(sheet, bits, 25), BEYOND);
                    due("it stays", x.put(sheet, 23, 1), 1);
                }
                due("missing", x.sheet(sheet, 0, 24), 1);
                due("missing", x.put(sheet, 0, 1), NONE);
            }
            due("sheet(4, 8, 1)", x.sheet(4, 8, 1), BEYOND);
            due("sheet(-1, 8, 1)", x.sheet(-1, 8, 1), BEYOND);
        });
    }

    private void voices() {
        s.tells(28, "A VOICE of a PUSHER: any number.", () -> {
            PastTheRim x = Sentences.withPushers(0, 0, 0, 0, 0, 65);
            for (int v = PARTED; v <= BEYOND; v++) due("voice(0, 0, " + v + ")", x.voice(0, HEAVES, v), v);
            due("voice(0, 0, MIN)", x.voice(0, HEAVES, MIN), MIN);
            due("voice(0, 0, MAX)", x.voice(0, HEAVES, MAX), MAX);
            due("the last one's", x.voice(5, SLIPS, 0), 23);
            for (int k = 1; k < 7; k++) due("none is an ERROR: told(" + k + ")", x.told(k), 0);
        });
        s.tells(29, "THE TRACE's i-th.", () -> {
            PastTheRim x = Sentences.withPushers(44);
            x.voice(0, PARTS, 1);
            due("the first", x.body(0), 21);
            due("the last", x.body(5), 10);
        });
    }

    /** Whether a number of a sheet is v, as seen by m of the first pusher. */
    private void firstIs(PastTheRim x, int sheet, int v) {
        due("levels(" + sheet + ")", x.levels(sheet), 1);
        due("the first number", x.pusherIs(0, 1), v);
    }

    private void sheets() {
        s.tells(30, "A SHEET has n numbers, all 0, of so many bits (8, 16, 32; 0: it is missing, n doesn't matter): 1.", () -> {
            PastTheRim x = Sentences.withPushers(5);
            for (int bits = 8; bits <= 32; bits *= 2) {
                due("sheet(0, " + bits + ", 1)", x.sheet(0, bits, 1), 1);
                x.become(0, 5);
                firstIs(x, 0, 0);
                x.put(0, 0, 7);
                due("again", x.sheet(0, bits, 1), 1);
                firstIs(x, 0, 0);
                due("none", x.sheet(0, bits, 0), 1);
                due("none", x.put(0, 0, 7), BEYOND);
                due("more again", x.sheet(0, bits, 24), 1);
                due("the last", x.put(0, 23, 7), 1);
            }
            for (int n : new int[] {0, 24, 25, -1, MIN, MAX}) {
                x.sheet(1, 8, 3);
                due("sheet(1, 0, " + n + ")", x.sheet(1, 0, n), 1);
                due("missing", x.put(1, 0, 0), NONE);
            }
            due("missing already", x.sheet(1, 0, 0), 1);
        });
        s.tells(31, "Number i of a SHEET becomes v (its lowest bits): 1.", () -> {
            PastTheRim x = Sentences.withPushers(0);
            becomes(x, 8, 9, 9);
            becomes(x, 8, 256 + 8, 8);
            becomes(x, 8, -256 + 7, 7);
            becomes(x, 8, MIN + 6, 6);
            becomes(x, 8, 65536 + 5, 5);
            becomes(x, 16, 65536 + 4, 4);
            becomes(x, 16, -65536 + 3, 3);
            becomes(x, 16, MIN + 2, 2);
            becomes(x, 32, 9, 9);
            stays(x, 8, 128);
            stays(x, 8, 255);
            stays(x, 8, -1);
            stays(x, 8, 10);
            stays(x, 16, 256 + 8);
            stays(x, 16, 65535);
            stays(x, 16, -1);
            stays(x, 32, 65536 + 4);
            stays(x, 32, MIN + 2);
            stays(x, 32, -1);
            x.sheet(0, 8, 3);
            due("the second alone", x.put(0, 1, 6), 1);
            firstIs(x, 0, 0);
        });
    }

    private void becomes(PastTheRim x, int bits, int v, int want) {
        x.become(0, 0);
        x.sheet(0, bits, 1);
        due("put(0, 0, " + v + ") of " + bits + " bits", x.put(0, 0, v), 1);
        firstIs(x, 0, want);
    }

    /** A number that isn't 0 to 9 with so many bits. */
    private void stays(PastTheRim x, int bits, int v) {
        x.sheet(0, bits, 1);
        due("put(0, 0, " + v + ") of " + bits + " bits", x.put(0, 0, v), 1);
        due("levels(0) with " + v + " of " + bits + " bits", x.levels(0), 0);
    }

    private void levelsAre(PastTheRim x, int sheet, int... want) {
        for (int i = 0; i < want.length; i++) x.become(i, 9);
        due("levels(" + sheet + ")", x.levels(sheet), want.length);
        for (int i = 0; i < want.length; i++) due("number " + i, x.pusherIs(i, 1), want[i]);
    }

    private void moves() {
        s.tells(32, "n numbers of a SHEET, from number i on, come to another one (or the same), from its number j on, as they all were: n.", () -> {
            for (int bits = 8; bits <= 32; bits *= 2) {
                PastTheRim x = Sentences.withPushers(0, 0, 0, 0, 0);
                Sentences.heights(x, 0, bits, 1, 2, 3, 4, 5);
                x.sheet(3, bits, 5);
                due("move(0, 1, 3, 2, 3)", x.move(0, 1, 3, 2, 3), 3);
                levelsAre(x, 3, 0, 0, 2, 3, 4);
                levelsAre(x, 0, 1, 2, 3, 4, 5);
                due("one, the last, to the first", x.move(0, 4, 3, 0, 1), 1);
                levelsAre(x, 3, 5, 0, 2, 3, 4);
                due("all", x.move(0, 0, 3, 0, 5), 5);
                levelsAre(x, 3, 1, 2, 3, 4, 5);
                due("the same, ahead", x.move(0, 0, 0, 1, 4), 4);
                levelsAre(x, 0, 1, 1, 2, 3, 4);
                due("the same, back", x.move(3, 1, 3, 0, 4), 4);
                levelsAre(x, 3, 2, 3, 4, 5, 5);
                due("to where they are", x.move(3, 0, 3, 0, 5), 5);
                levelsAre(x, 3, 2, 3, 4, 5, 5);
                due("none, from the end", x.move(3, 5, 0, 5, 0), 0);
                due("none, from the first", x.move(3, 0, 0, 0, 0), 0);
                levelsAre(x, 0, 1, 1, 2, 3, 4);
            }
            PastTheRim x = new PastTheRim();
            x.sheet(0, 8, 24);
            x.sheet(1, 8, 0);
            due("all 24", x.move(0, 0, 0, 0, 24), 24);
            due("none to none", x.move(0, 24, 1, 0, 0), 0);
        });
    }

    private void levels() {
        s.tells(33, "Numbers of a SHEET become m of PUSHERS 0, 1, ..: how many, up to the first that is not 0 to 9 (no ERROR then), "
            + "or for which there is no PUSHER.", () -> {
            levelsBecome(3, new int[] {9, 0, 7}, 3, 9, 0, 7);
            levelsBecome(3, new int[] {9, 0}, 2, 9, 0, 5);
            levelsBecome(3, new int[] {9, 0, 7, 6}, 3, 9, 0, 7);
            levelsBecome(3, new int[] {10, 1, 2}, 0, 5, 5, 5);
            levelsBecome(3, new int[] {1, 10, 2}, 1, 1, 5, 5);
            levelsBecome(3, new int[] {-1, 1, 2}, 0, 5, 5, 5);
            levelsBecome(3, new int[] {1, 2, -1}, 2, 1, 2, 5);
            levelsBecome(3, new int[] {MIN, 1, 2}, 0, 5, 5, 5);
            levelsBecome(3, new int[] {}, 0, 5, 5, 5);
            levelsBecome(0, new int[] {1, 2}, 0);
            levelsBecome(6, new int[] {1, 2, 3, 4, 5, 6, 7}, 6, 1, 2, 3, 4, 5, 6);
        });
    }

    private void levelsBecome(int pushers, int[] numbers, int want, int... m) {
        PastTheRim x = new PastTheRim();
        for (int i = 0; i < pushers; i++) x.pusher(10 * i + 5);
        Sentences.heights(x, 2, 32, numbers);
        due("levels(2) of " + java.util.Arrays.toString(numbers), x.levels(2), want);
        for (int i = 0; i < m.length; i++) {
            due("m of " + i, x.pusherIs(i, 1), m[i]);
            due("KIND of " + i, x.pusherIs(i, 0), i);
        }
        for (int k = 1; k < 7; k++) due("told(" + k + ")", x.told(k), 0);
    }

    private void judgeIs(PastTheRim x, int want, int... heights) {
        Sentences.heights(x, 0, 16, heights);
        due("judge(0) of " + java.util.Arrays.toString(heights), x.judge(0), want);
    }

    /** By draws from z 1 gas is 4, 2, 6, 3, 7. */
    private void judges() {
        s.tells(34, "Numbers of a SHEET are HEIGHTS behind the next SWINGS BY DRAWS, till it is OUT: how many are right, from the first on", () -> {
            PastTheRim x = Sentences.withLaws("9", "0");
            judgeIs(x, 3, 4, 6, 12);
            judgeIs(x, 4, 4, 6, 12, 15);
            judgeIs(x, 2, 4, 6, 13, 15);
            judgeIs(x, 0, 5, 6, 12, 15);
            judgeIs(x, 1, 4, 0, 12);
            judgeIs(x, 0);
            judgeIs(x, 5, 4, 6, 12, 15, 22, 22, 28);
            x.car(0, 6);
            judgeIs(x, 2, 4, 6, 12, 15);
            judgeIs(x, 2, 4, 6, 6);
            judgeIs(x, 1, 4, 7);
            x.car(2, 6);
            judgeIs(x, 1, 10, 12);
            x.swing(0);
            judgeIs(x, 0, 6);
            x.car(2, 0);
            judgeIs(x, 0, 4);
        });
        s.tells(34, "(nothing changes; SWING beyond 9999, too).", () -> {
            PastTheRim x = Sentences.atTheLastSwing();
            Sentences.text(x, 1, "(n>9999)*5");
            x.seed(1);
            judgeIs(x, 3, 4, 1, 2);
            judgeIs(x, 2, 4, 1, 7);
            due("SWING", x.count(1), 9999);
            due("HEIGHT", x.carIs(2), 0);
            due("SIDE", x.carIs(3), 1);
            due("z", x.count(5), 1);
            x = Sentences.parked(Sentences.withLaws("0", "0"), 20, 30);
            x.car(4, 1);
            judgeIs(x, 1, 30, 30);
            int[] want = {20, 0, 30, 0, 1, 0, 0};
            for (int i = 0; i < 7; i++) due("carIs(" + i + ")", x.carIs(i), want[i]);
        });
    }

    private static PastTheRim rich() {
        PastTheRim x = Sentences.withPushers(15, 61);
        int[] car = {33, 11, 12, 1, 13};
        for (int i = 0; i < 5; i++) x.car(i, car[i]);
        Sentences.text(x, 0, "w+3");
        Sentences.text(x, 1, "4");
        Sentences.feed(x, "1+i");
        x.tell(0);
        x.tell(8);
        x.seed(99);
        x.swing(0);
        return x;
    }

    private static void changeAll(PastTheRim x) {
        x.text(0);
        x.untell(1);
        Sentences.feed(x, "7");
        x.check();
        x.tell(9);
        x.leaves();
        x.become(0, 44);
        x.pusher(29);
        x.pusher(19);
        x.seed(4);
        x.park(1);
        for (int what = 1; what < 5; what++) x.car(what, 1);
        x.swings(40);
    }

    private void images() {
        s.tells(35, "All (but SHEETS, THE TRACE, what told() tells, and how often this was done) is kept as an IMAGE, "
            + "in place of one ahead: how often that was done.", () -> {
            PastTheRim x = rich();
            due("image()", x.image(), 1);
            changeAll(x);
            x.restore();
            String unlike = Sight.unlike(Sight.of(x, false), Sight.of(imaged(), false));
            due("all is kept, unlike: " + unlike, unlike.length(), 0);
            x = new PastTheRim();
            for (int i = 1; i <= 40; i++) {
                x.car(1, i);
                due("image()", x.image(), i);
            }
            x.restore();
            due("in place of one ahead", x.carIs(1), 40);
            due("how often isn't kept", x.image(), 41);
            notKept();
        });
        s.tells(36, "All is as the IMAGE has it, which stays: SWING.", () -> {
            PastTheRim x = rich();
            x.image();
            for (int i = 0; i < 3; i++) {
                changeAll(x);
                due("restore()", x.restore(), 1);
                due("DEPTH", x.carIs(0), 33);
            }
            x = new PastTheRim();
            x.image();
            changeAll(x);
            due("restore() of a new one", x.restore(), 0);
            String unlike = Sight.unlike(Sight.of(x, false), Sight.of(imagedNew(), false));
            due("all is as at first, unlike: " + unlike, unlike.length(), 0);
            x = Sentences.comeOut();
            x.image();
            x.park(60);
            x.restore();
            due("OUT", x.carIs(5), 1);
            due("STATE", x.swing(0), Sentences.STATE);
        });
    }

    /** As the one that was changed and is back: the image is the second of its own. */
    private static PastTheRim imaged() {
        PastTheRim x = rich();
        x.image();
        return x;
    }

    private static PastTheRim imagedNew() {
        PastTheRim x = new PastTheRim();
        x.image();
        return x;
    }

    private void notKept() {
        PastTheRim x = Sentences.withPushers(0);
        Sentences.heights(x, 0, 8, 4);
        x.voice(0, HEAVES, 1);
        x.image();
        x.put(0, 0, 7);
        x.sheet(1, 8, 1);
        x.voice(0, SLIPS, 1);
        x.now(9);
        x.restore();
        firstIs(x, 0, 7);
        due("a SHEET that was missing", x.put(1, 0, 1), 1);
        due("THE TRACE", x.body(0), 11);
        due("told(1)", x.told(1), 1);
    }

    private void waits() {
        s.tells(37, "One more number waits: how many.", () -> {
            PastTheRim x = new PastTheRim();
            int[] v = {0, MIN, MAX, BEYOND};
            for (int i = 1; i <= 24; i++) {
                due("tell(..)", x.tell(v[i % 4]), i);
                due("count(3)", x.count(3), i);
            }
        });
        s.tells(38, "The numbers that wait (none do then) are PUSH of PUSHERS 0, 1, ..: 0; else 1 and the place (from 0) of the first "
            + "that isn't so (or for which there is none).", this::checks);
    }

    private void checks() {
        PastTheRim x = Sentences.withPushers(5, 14, 33);
        checkIs(x, 0);
        checkIs(x, 0, 5);
        checkIs(x, 0, 5, 6);
        checkIs(x, 0, 5, 6, 0);
        checkIs(x, 1, 4);
        checkIs(x, 1, 6, 7, 1);
        checkIs(x, 2, 5, 5, 1);
        checkIs(x, 3, 5, 6, 3);
        checkIs(x, 4, 5, 6, 0, 0);
        checkIs(x, 4, 5, 6, 0, 1);
        checkIs(x, 1, MIN);
        x.car(3, 1);
        checkIs(x, 0, 0, 0, 3);
        checkIs(x, 2, 0, 6, 3);
        PastTheRim none = new PastTheRim();
        checkIs(none, 0);
        checkIs(none, 1, 0);
        int[] many = new int[24];
        checkIs(none, 1, many);
        checkIs(Sentences.withPushers(0, 0, 0, 0, 0, 0), 7, many);
    }

    private void checkIs(PastTheRim x, int want, int... waiting) {
        for (int v : waiting) x.tell(v);
        due("check() of " + java.util.Arrays.toString(waiting), x.check(), want);
        due("none wait then", x.count(3), 0);
        due("so all are", x.check(), 0);
    }

    private void counts() {
        s.tells(39, "0 PUSHERS, 1 SWING, 2 bytes of THE TAPE, 3 numbers that wait, 4 BODIES in THE TRACE, 5 z (any number).", () -> {
            PastTheRim x = Sentences.withPushers(5, 14);
            Sentences.swingsOn(x, 4);
            x.feed(0x313131L, 3);
            x.tell(1);
            x.voice(1, CURSES, 1);
            x.seed(BEYOND);
            int[] want = {2, 4, 3, 1, 4, BEYOND};
            for (int i = 0; i < 6; i++) due("count(" + i + ")", x.count(i), want[i]);
            due("a z that is no ERROR", x.told(1), 0);
            x.seed(MIN);
            due("count(5)", x.count(5), MIN);
        });
        s.tells(40, "How many acts have answered an ERROR LOW - k (k 1 .. 6);", () -> {
            PastTheRim x = new PastTheRim();
            for (int i = 0; i < 3; i++) x.now(9);
            for (int i = 0; i < 5; i++) x.restore();
            for (int i = 0; i < 2; i++) x.leaves();
            for (int i = 0; i < 24; i++) x.tell(i);
            for (int i = 0; i < 4; i++) x.tell(i);
            x.pusher(0);
            for (int i = 0; i < 6; i++) x.as(0, 1);
            for (int i = 0; i < 7; i++) x.voice(0, PARTS, 1);
            int[] want = {0, 3, 5, 2, 4, 6, 7};
            for (int k = 1; k < 7; k++) due("told(" + k + ")", x.told(k), want[k]);
            for (int k = 1; k < 7; k++) due("told(" + k + ") again", x.told(k), want[k]);
        });
        s.tells(40, "BEYOND: another k (counted, too).", () -> {
            PastTheRim x = new PastTheRim();
            int[] others = {0, 7, -1, MIN, MAX, BEYOND};
            for (int i = 0; i < others.length; i++) {
                due("told(" + others[i] + ")", x.told(others[i]), BEYOND);
                due("counted", x.told(1), i + 1);
            }
        });
    }
}
