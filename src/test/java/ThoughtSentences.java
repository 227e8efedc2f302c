/** Sentences of what is only thought: terms 3, promises 18 to 27. */
final class ThoughtSentences {
    private static final int TERMS = Sentences.TERMS;
    private static final int NONE = Sentences.NONE;

    private final Sentences s;

    ThoughtSentences(Sentences s) {
        this.s = s;
    }

    void all() {
        onlyThought();
        plans();
        steadies();
        crews();
        depths();
        rows();
        calls();
    }

    private void due(String call, long got, long want) {
        s.due(call, got, want);
    }

    /** A car on dry ground that nothing rubs. */
    private static PastTheRim smooth(int depth) {
        PastTheRim x = Sentences.withLaws("9", "0");
        x.car(0, depth);
        return x;
    }

    private static PastTheRim smoothWith(int depth, int... kms) {
        PastTheRim x = smooth(depth);
        for (int km : kms) x.pusher(km);
        return x;
    }

    // ---- terms 3.

    private void onlyThought() {
        s.tells(TERMS, "3. (All this is only thought;", () -> {
            PastTheRim x = rich();
            think(x);
            String unlike = Sight.unlike(Sight.of(x, true), Sight.of(rich(), true));
            due("what changes: " + unlike, unlike.length(), 0);
        });
        s.tells(TERMS, "SWING beyond 9999, too;", this::beyondTheLastSwing);
        s.tells(TERMS, "z is as it was.)", () -> {
            PastTheRim x = rich();
            x.seed(-77);
            think(x);
            due("count(5)", x.count(5), -77);
            x.swings(1);
            int z = x.count(5);
            due("the draw behind it", z, -77 * 1103515245 + 12345);
        });
    }

    private static PastTheRim rich() {
        PastTheRim x = Sentences.withPushers(14, 33, 65, 58);
        int[] car = {30, 20, 7, 1, 2};
        for (int what = 0; what < 5; what++) x.car(what, car[what]);
        Sentences.text(x, 1, "2+n");
        Sentences.feed(x, "i+1");
        Sentences.heights(x, 0, 8, 9, 9);
        Sentences.heights(x, 1, 16, 3);
        x.tell(4);
        x.voice(0, 2, 5);
        x.image();
        x.swing(3);
        return x;
    }

    private static void think(PastTheRim x) {
        for (int what = 0; what < 5; what++) x.would(9, what);
        for (int n = 1; n < 5; n++) x.plan(n, -2);
        for (int n = 1; n < 4; n++) x.odds(n, 1);
        for (int gas = 0; gas < 10; gas += 3) {
            x.steady(gas);
            x.crew(gas, 60, 1);
            x.deepest(gas, 60);
            x.strokes(gas, 60);
        }
        x.least();
        x.fits(0, -1);
        x.fits(1, 0);
        x.judge(0);
        for (int what = 0; what < 3; what++) x.now(what);
        x.law(0, 1, 2, 3);
    }

    /** RUB is 5 from SWING 10000 on: held at 9999, it would be 0 always. */
    private void beyondTheLastSwing() {
        PastTheRim x = Sentences.atTheLastSwing();
        Sentences.text(x, 1, "(n>9999)*5");
        x.car(0, 12);
        due("steady(6)", x.steady(6), 7);
        due("least()", x.least(), 6);
        due("crew(6, 6, 0)", x.crew(6, 6, 0), NONE);
        due("crew(6, 7, 0)", x.crew(6, 7, 0), 0);
        due("deepest(6, 2)", x.deepest(6, 2), 7);
        due("strokes(6, 2)", x.strokes(6, 2), 5);
        due("odds(2, 0)", x.odds(2, 0), 3);
        due("odds(2, 1)", x.odds(2, 1), 100);
        Sentences.heights(x, 0, 8, 6, 7);
        due("fits(0, -1)", x.fits(0, -1), 1);
        due("fits(0, 1)", x.fits(0, 1), 6);
        x.car(0, 14);
        due("plan(2, -2)", x.plan(2, -2), 0);
        due("plan(2, -1)", x.plan(2, -1), -1);
        due("plan(2, 1)", x.plan(2, 1), 9);
    }

    private void plansAs(PastTheRim x, int n, int swings, int over, int... row) {
        due("plan(" + n + ", -2)", x.plan(n, -2), swings);
        due("plan(" + n + ", -1)", x.plan(n, -1), over);
        for (int i = 0; i < n; i++) due("plan(" + n + ", " + i + ")", x.plan(n, i), row[i]);
    }

    private void plans() {
        s.tells(TERMS, "PLAN of n gases: of all rows of n gases that with which it is OUT behind the fewest SWINGS "
            + "(the rest of the row isn't used);", () -> {
            plansAs(smooth(9), 4, 1, 0, 9, 0, 0, 0);
            plansAs(smooth(10), 3, 2, 0, 1, 9, 0);
            plansAs(smooth(18), 2, 2, 0, 9, 9);
            plansAs(smooth(19), 2, 0, -1, 9, 9);
            plansAs(smooth(1), 1, 1, 0, 1);
            plansAs(smoothWith(28, 35), 4, 3, 0, 5, 9, 9, 0);
            plansAs(smoothWith(33, 35), 4, 4, 0, 0, 5, 9, 9);
            plansAs(Sentences.parked(smooth(30), 30, 30), 4, 1, 0, 0, 0, 0, 0);
        });
        s.tells(TERMS, "if it is with none, that with which HEIGHT less DEPTH is greatest behind all;", () -> {
            plansAs(smooth(60), 4, 0, -24, 9, 9, 9, 9);
            PastTheRim x = Sentences.withLaws("3", "0");
            plansAs(x, 2, 0, -14, 3, 3);
            x = Sentences.withLaws("0", "0");
            plansAs(x, 2, 0, -20, 0, 0);
            x = Sentences.withLaws("(d-20)*9", "0");
            plansAs(x, 1, 0, -20, 0);
            plansAs(x, 2, 0, -12, 1, 9);
        });
        s.tells(TERMS, "of several the first as a row.", () -> {
            PastTheRim x = Sentences.withLaws("9", "99");
            plansAs(x, 3, 0, -20, 0, 0, 0);
            x = Sentences.withLaws("9", "h");
            plansAs(x, 2, 0, -11, 0, 9);
            plansAs(smooth(15), 2, 2, 0, 6, 9);
            plansAs(smooth(20), 3, 3, 0, 2, 9, 9);
        });
    }

    private void steadies() {
        s.tells(TERMS, "STEADY: behind how many SWINGS (0 .. 60) with like gas it is OUT (0: it is).", () -> {
            due("60", smooth(60).steady(1), 60);
            due("60 by 9", smooth(60).steady(9), 7);
            due("1", smooth(1).steady(1), 1);
            due("1 by HEIGHT alone", Sentences.parked(smooth(9), 9, 9).steady(0), 1);
            PastTheRim x = Sentences.withLaws("9", "n=0");
            x.car(0, 60);
            due("61", x.steady(1), NONE);
            x.car(0, 59);
            due("60", x.steady(1), 60);
            due("it is OUT", Sentences.comeOut().steady(9), 0);
            due("it is OUT", Sentences.comeOut().steady(0), 0);
        });
        s.tells(TERMS, "LEAST: the least gas with which it is STEADY by 60.", () -> {
            due("1 by 60", smooth(60).least(), 1);
            due("0", Sentences.parked(smooth(60), 60, 60).least(), 0);
            due("pushed out", smoothWith(60, 9).least(), 0);
            PastTheRim x = Sentences.withLaws("9", "n=0");
            x.car(0, 60);
            due("1 by 61", x.least(), 2);
            x = Sentences.withLaws("9", "8");
            x.car(0, 60);
            due("9 by 60", x.least(), 9);
            x = Sentences.withLaws("8", "8");
            due("9 spins", x.least(), NONE);
            x = Sentences.withLaws("9", "8+(n=0)");
            x.car(0, 60);
            due("9 by 61", x.least(), NONE);
            due("it is OUT", Sentences.comeOut().least(), 0);
        });
    }

    private void crewIs(PastTheRim x, int gas, int n, int many, int set) {
        due("crew(" + gas + ", " + n + ", 0)", x.crew(gas, n, 0), many);
        due("crew(" + gas + ", " + n + ", 1)", x.crew(gas, n, 1), set);
    }

    private void crews() {
        s.tells(TERMS, "CREW: the fewest PUSHERS who alone must be there (others push nothing, weigh nothing)", () -> {
            int[] kms = {9, 4, 39, 5};
            crewIs(smoothWith(4, kms), 0, 1, 1, 1);
            crewIs(smoothWith(13, kms), 0, 1, 2, 3);
            crewIs(smoothWith(14, kms), 0, 1, 2, 9);
            crewIs(smoothWith(18, kms), 0, 1, 3, 11);
            crewIs(smoothWith(19, kms), 1, 1, 3, 11);
            crewIs(smoothWith(19, kms), 0, 1, NONE, NONE);
            crewIs(smoothWith(1), 0, 60, NONE, NONE);
            crewIs(smoothWith(1), 1, 1, 0, 0);
            crewIs(smoothWith(54, 9, 9, 9, 9, 9, 9), 0, 1, 6, 63);
            crewIs(smoothWith(55, 9, 9, 9, 9, 9, 9), 0, 1, NONE, NONE);
            sitters();
        });
        s.tells(TERMS, "so that it is OUT behind n SWINGS at most with like gas", () -> {
            crewIs(smoothWith(60, 9), 0, 13, 1, 1);
            crewIs(smoothWith(60, 9), 0, 12, NONE, NONE);
            crewIs(smoothWith(30, 1), 0, 59, 1, 1);
            crewIs(smoothWith(30, 1), 0, 60, 1, 1);
            crewIs(smoothWith(30, 1), 0, 58, NONE, NONE);
            crewIs(smoothWith(60, 1), 1, 60, 0, 0);
            crewIs(smoothWith(60, 1), 1, 59, 1, 1);
        });
        s.tells(TERMS, "(0 of them, if it is OUT);", () -> {
            PastTheRim x = Sentences.comeOut();
            x.pusher(9);
            x.car(0, 60);
            x.car(2, 0);
            crewIs(x, 0, 1, 0, 0);
        });
        s.tells(TERMS, "of several sets the least (bits).", () -> {
            crewIs(smoothWith(10, 5, 5, 5, 5, 5, 5), 0, 1, 2, 3);
            crewIs(smoothWith(10, 1, 5, 5, 1, 1, 5), 0, 1, 2, 6);
            crewIs(smoothWith(9, 3, 3, 3, 9), 0, 1, 1, 8);
            crewIs(smoothWith(9, 3, 3, 3, 0, 0, 9), 0, 1, 1, 32);
            crewIs(smoothWith(9, 1, 8, 1), 0, 1, 2, 3);
        });
    }

    private void sitters() {
        PastTheRim x = Sentences.withLaws("w", "0");
        x.pusher(63);
        x.pusher(64);
        x.car(0, 4);
        crewIs(x, 4, 1, 1, 2);
        x.car(0, 7);
        crewIs(x, 7, 1, 2, 3);
        crewIs(x, 8, 60, NONE, NONE);
        x = Sentences.withLaws("9-w", "0");
        x.pusher(69);
        x.car(0, 9);
        crewIs(x, 9, 1, 0, 0);
    }

    private void depths() {
        s.tells(TERMS, "DEEPEST: the greatest DEPTH, in place of its own, with which it is OUT behind n SWINGS at most with like gas.", () -> {
            PastTheRim x = smooth(1);
            due("deepest(1, 1)", x.deepest(1, 1), 1);
            due("deepest(9, 1)", x.deepest(9, 1), 9);
            due("deepest(9, 6)", x.deepest(9, 6), 54);
            due("deepest(9, 7)", x.deepest(9, 7), 60);
            due("deepest(1, 60)", x.deepest(1, 60), 60);
            due("deepest(1, 59)", x.deepest(1, 59), 59);
            due("deepest(0, 60)", x.deepest(0, 60), NONE);
            due("DEPTH stays", x.carIs(0), 1);
            x.car(2, 60);
            due("HEIGHT 60", x.deepest(0, 1), 60);
            x.car(2, 59);
            due("HEIGHT 59", x.deepest(0, 1), 59);
            x = Sentences.withLaws("9", "(d<50)*99");
            due("not with less", x.deepest(9, 6), 54);
            x = Sentences.withLaws("0", "0");
            x.car(2, 30);
            due("a spin digs", x.deepest(1, 1), 29);
        });
        s.tells(TERMS, "STROKES: the fewest strokes with a shovel (0 .. 20; as shovel() does them) behind which it is so.", () -> {
            due("0", smooth(9).strokes(9, 1), 0);
            due("0 with room", smooth(5).strokes(9, 1), 0);
            due("1", smooth(10).strokes(9, 1), 1);
            due("20", smooth(29).strokes(9, 1), 20);
            due("21", smooth(30).strokes(9, 1), NONE);
            due("n at most", smooth(60).strokes(1, 40), 20);
            due("n at most", smooth(60).strokes(1, 39), NONE);
            due("n at most", smooth(60).strokes(1, 60), 0);
            due("DEPTH is 1 at least", smooth(2).strokes(0, 60), NONE);
            strokesOnIce();
        });
    }

    private void strokesOnIce() {
        PastTheRim x = new PastTheRim();
        x.car(0, 1);
        Sentences.text(x, 1, "0");
        x.car(1, 99);
        due("ICE 69", x.strokes(3, 1), 15);
        due("ICE 59", x.strokes(4, 1), 20);
        due("ICE 49", x.strokes(5, 1), NONE);
        x = Sentences.withLaws("0-i", "0");
        x.car(0, 5);
        x.car(1, 1);
        due("ICE is 0 at least", x.strokes(1, 1), NONE);
    }

    private void fitsAs(PastTheRim x, int bits, int[] heights, int rows, int... first) {
        Sentences.heights(x, 1, bits, heights);
        String of = " of " + java.util.Arrays.toString(heights);
        due("fits(1, -1)" + of, x.fits(1, -1), rows);
        for (int i = 0; i < 3; i++) due("fits(1, " + i + ")" + of, x.fits(1, i), i < first.length ? first[i] : NONE);
    }

    private static int[] row(int... v) {
        return v;
    }

    private void rows() {
        s.tells(TERMS, "FITS: a SHEET of 1 to 3 numbers tells HEIGHTS behind as many SWINGS: rows of as many gases by which it comes just so", () -> {
            fitsAs(smooth(60), 8, row(4), 1, 4);
            fitsAs(smooth(60), 16, row(0), 1, 0);
            fitsAs(smooth(60), 32, row(9), 1, 9);
            fitsAs(smooth(60), 32, row(10), 0);
            fitsAs(smooth(60), 32, row(-1), 0);
            fitsAs(smooth(60), 8, row(4, 9), 1, 4, 5);
            fitsAs(smooth(60), 8, row(4, 3), 0);
            fitsAs(smooth(60), 8, row(1, 3, 6), 1, 1, 2, 3);
            fitsAs(smooth(60), 8, row(1, 3, 2), 0);
            fitsAs(Sentences.withLaws("3", "0"), 8, row(0), 7, 0);
            fitsAs(Sentences.withLaws("3", "0"), 8, row(0, 2), 7, 0, 2);
            fitsAs(Sentences.withLaws("0", "0"), 8, row(0, 0, 0), 1000, 0, 0, 0);
            fitsAs(new PastTheRim(), 8, row(1, 0, 5), 4, 5, 0, 9);
            fitsAs(smooth(60), 8, row(), NONE);
            fitsAs(smooth(60), 8, row(0, 0, 0, 0), NONE);
        });
        s.tells(TERMS, "(a SWING that it has no more, since it is OUT, doesn't).", () -> {
            fitsAs(smooth(5), 8, row(5), 1, 5);
            fitsAs(smooth(5), 8, row(5, 5), 0);
            fitsAs(smooth(5), 8, row(4, 5), 1, 4, 1);
            fitsAs(smooth(5), 8, row(4, 5, 5), 0);
            fitsAs(smooth(5), 8, row(6, 7), 0);
            PastTheRim x = Sentences.comeOut();
            fitsAs(x, 8, row(x.carIs(2)), 0);
            x.car(2, 2);
            fitsAs(x, 8, row(0), 0);
        });
        s.tells(TERMS, "ODDS: that it is OUT behind n SWINGS at most, each gas 0 .. 9 being as likely each time:", () -> {
            oddsAre(smooth(1), 1, 9, 10);
            oddsAre(smooth(1), 2, 99, 100);
            oddsAre(smooth(1), 3, 999, 1000);
            oddsAre(smooth(9), 1, 1, 10);
            oddsAre(smooth(27), 3, 1, 1000);
            PastTheRim x = Sentences.withLaws("9", "(n=0)*99");
            x.car(0, 9);
            oddsAre(x, 2, 1, 10);
        });
        s.tells(TERMS, "a fraction in lowest terms (0 is 0 by 1).", () -> {
            oddsAre(smooth(10), 2, 9, 20);
            oddsAre(smooth(10), 3, 39, 50);
            oddsAre(smooth(2), 1, 4, 5);
            oddsAre(smooth(5), 1, 1, 2);
            oddsAre(smooth(10), 1, 0, 1);
            oddsAre(smooth(28), 3, 0, 1);
            oddsAre(Sentences.parked(smooth(9), 9, 9), 1, 1, 1);
            oddsAre(Sentences.parked(smooth(9), 9, 9), 3, 1, 1);
        });
    }

    private void oddsAre(PastTheRim x, int n, int above, int below) {
        due("odds(" + n + ", 0)", x.odds(n, 0), above);
        due("odds(" + n + ", 1)", x.odds(n, 1), below);
    }

    // ---- promises 18 to 27.

    private void calls() {
        s.tells(18, "0 GRIP, 1 PUSH of all, 2 RUB.", () -> {
            PastTheRim x = Sentences.withPushers(3, 39, 65);
            x.car(0, 40);
            x.car(1, 50);
            x.car(4, 1);
            due("now(0)", x.now(0), 12);
            due("now(1)", x.now(1), 3);
            due("now(2)", x.now(2), 6);
            x.car(3, 1);
            due("now(1) back", x.now(1), 9);
            due("nobody pushes", new PastTheRim().now(1), 0);
        });
        s.tells(19, "By one SWING (also if it is OUT, or SWING 9999): 0 HEIGHT, 1 DEPTH, 2 ICE, 3 whether it SPINS, "
            + "4 whether HEIGHT is DEPTH or more then.", this::woulds);
        s.tells(20, "PLAN of n (1 .. 4): what -2 behind how many SWINGS it is OUT (0: it isn't), -1 HEIGHT less DEPTH then, "
            + "0 .. n - 1 the gas there.", () -> {
            plansAs(smooth(5), 1, 1, 0, 5);
            plansAs(smooth(60), 1, 0, -51, 9);
            plansAs(smooth(11), 2, 2, 0, 2, 9);
            plansAs(smooth(30), 3, 0, -3, 9, 9, 9);
            plansAs(smooth(36), 4, 4, 0, 9, 9, 9, 9);
            PastTheRim x = Sentences.parked(smooth(10), 10, 14);
            plansAs(x, 4, 1, 4, 0, 0, 0, 0);
        });
        s.tells(21, "STEADY.", () -> {
            PastTheRim x = new PastTheRim();
            due("steady(9)", x.steady(9), 4);
            due("steady(5)", x.steady(5), 20);
            due("steady(0)", Sentences.parked(x, 20, 24).steady(0), 1);
        });
        s.tells(22, "LEAST.", () -> due("least()", new PastTheRim().least(), 5));
        s.tells(23, "CREW, for n (1 .. 60): what 0 how many, 1 the set.", () -> {
            crewIs(smoothWith(9, 4, 5, 9), 0, 1, 1, 4);
            crewIs(smoothWith(31, 1, 0), 0, 60, NONE, NONE);
            crewIs(smoothWith(30, 0, 1), 0, 60, 1, 2);
        });
        s.tells(24, "DEEPEST, for n (1 .. 60).", () -> {
            PastTheRim x = new PastTheRim();
            due("deepest(9, 1)", x.deepest(9, 1), 7);
            due("deepest(9, 60)", x.deepest(9, 60), 60);
        });
        s.tells(25, "STROKES, for n (1 .. 60).", () -> {
            due("strokes(9, 1)", new PastTheRim().strokes(9, 1), 13);
            due("strokes(4, 60)", new PastTheRim().strokes(4, 60), 1);
        });
        s.tells(26, "FITS, by a SHEET: what -1 how many rows, 0 .. 2 the gas there of the first one (as a row).", () -> {
            fitsAs(Sentences.withLaws("9", "h+9"), 8, row(0, 0, 0), 1000, 0, 0, 0);
            fitsAs(Sentences.withLaws("9", "6"), 8, row(0, 3, 6), 7, 0, 9, 9);
            for (int sheet = 0; sheet < 4; sheet += 3) {
                PastTheRim x = smooth(60);
                Sentences.heights(x, sheet, 8, 8);
                due("fits(" + sheet + ", 0)", x.fits(sheet, 0), 8);
            }
        });
        s.tells(27, "ODDS, for n (1 .. 3): part 0 above, 1 below the line.", () -> {
            oddsAre(smooth(3), 1, 7, 10);
            oddsAre(smooth(18), 2, 1, 100);
            oddsAre(smooth(26), 3, 1, 250);
        });
    }

    private void wouldBe(PastTheRim x, int gas, int... want) {
        for (int what = 0; what < 5; what++) due("would(" + gas + ", " + what + ")", x.would(gas, what), want[what]);
    }

    private void woulds() {
        PastTheRim x = new PastTheRim();
        x.car(1, 98);
        x.car(2, 25);
        wouldBe(x, 0, 21, 20, 98, 0, 1);
        wouldBe(x, 1, 21, 21, 99, 1, 1);
        wouldBe(x, 9, 21, 21, 99, 1, 1);
        x.car(2, 24);
        wouldBe(x, 0, 20, 20, 98, 0, 1);
        wouldBe(x, 1, 20, 21, 99, 1, 0);
        x.car(0, 60);
        wouldBe(x, 9, 16, 60, 99, 1, 0);
        x = Sentences.comeOut();
        x.car(2, 0);
        wouldBe(x, 9, 7, 1, 0, 0, 1);
        wouldBe(x, 2, 0, 1, 0, 0, 0);
        due("nothing changes", x.carIs(2), 0);
        due("nothing changes", x.carIs(6), 1);
        x = Sentences.atTheLastSwing();
        wouldBe(x, 9, 5, 20, 0, 0, 0);
        x.car(0, 5);
        wouldBe(x, 9, 7, 5, 0, 0, 1);
        due("nothing changes", x.count(1), 9999);
    }
}
