/**
 * Promise by promise: ordinary calls, the edges that the document names, wrong calls in the order
 * in which the document asks them. What is due was worked out by hand from the document.
 */
public final class PromisesTest {
    private static final int BEYOND = -1000000001;
    private static final int NONE = -1000000002;
    private static final int STATE = -1000000003;
    private static final int FULL = -1000000004;
    private static final int KIND = -1000000005;
    private static final int PARTED = -1000000006;
    private static final int MIN = Integer.MIN_VALUE;
    private static final int MAX = Integer.MAX_VALUE;

    private static int checks = 0;
    private static int wrong = 0;
    private static String at = "";

    private static void due(String call, long got, long want) {
        checks++;
        if (got != want) {
            wrong++;
            System.out.println(at + ": " + call + " answered " + got + ", due is " + want);
        }
    }

    private static void promise(int number) {
        at = "promise " + number;
    }

    /** Feeds signs, a byte each, eight at most a word. */
    private static void feed(PastTheRim x, String signs) {
        for (int i = 0; i < signs.length(); i += 8) {
            int n = Math.min(8, signs.length() - i);
            long word = 0;
            for (int j = n - 1; j >= 0; j--) word = word << 8 | signs.charAt(i + j) & 255;
            x.feed(word, n);
        }
    }

    private static int text(PastTheRim x, int use, String signs) {
        feed(x, signs);
        return x.text(use);
    }

    private static PastTheRim withPushers(int... kms) {
        PastTheRim x = new PastTheRim();
        for (int km : kms) x.pusher(km);
        return x;
    }

    /** All that a call can look at without changing anything, as one number. */
    private static long sight(PastTheRim x) {
        long s = 7;
        for (int i = 0; i < 7; i++) s = s * 31 + x.carIs(i);
        for (int i = 0; i < 6; i++) s = s * 31 + x.count(i);
        for (int i = 0; i < x.count(0); i++) for (int w = 0; w < 4; w++) s = s * 31 + x.pusherIs(i, w);
        for (int i = 0; i < x.count(4); i++) s = s * 31 + x.body(i);
        for (int u = 0; u < 2; u++) s = s * 31 + x.law(u, 3, 17, 5);
        return s;
    }

    private static void newObject() {
        promise(1);
        PastTheRim x = new PastTheRim();
        int[] car = {20, 0, 0, 0, 0, 0, 0};
        for (int i = 0; i < 7; i++) due("carIs(" + i + ")", x.carIs(i), car[i]);
        int[] counts = {0, 0, 0, 0, 0, 1};
        for (int i = 0; i < 6; i++) due("count(" + i + ")", x.count(i), counts[i]);
        for (int k = 1; k < 7; k++) due("told(" + k + ")", x.told(k), 0);
        for (int s = 0; s < 4; s++) due("put(" + s + ", 0, 0)", x.put(s, 0, 0), NONE);
        due("restore()", x.restore(), NONE);
        due("untell(0)", x.untell(0), 0);
        due("untell(1)", x.untell(1), 0);
        due("judge(0)", x.judge(0), NONE);
    }

    private static void pushers() {
        promise(2);
        PastTheRim x = new PastTheRim();
        due("pusher(-1)", x.pusher(-1), BEYOND);
        due("pusher(70)", x.pusher(70), BEYOND);
        due("pusher(MIN)", x.pusher(MIN), BEYOND);
        due("pusher(MAX)", x.pusher(MAX), BEYOND);
        int[] kms = {0, 69, 35, 41, 58, 22};
        for (int i = 0; i < 6; i++) due("pusher(" + kms[i] + ")", x.pusher(kms[i]), i);
        due("pusher(70) ahead of FULL", x.pusher(70), BEYOND);
        due("pusher(0)", x.pusher(0), FULL);
        due("count(0)", x.count(0), 6);

        promise(3);
        for (int i = 0; i < 6; i++) {
            due("KIND of " + i, x.pusherIs(i, 0), kms[i] / 10);
            due("m of " + i, x.pusherIs(i, 1), kms[i] % 10);
            due("WEIGHT of " + i, x.pusherIs(i, 3), i == 1 ? 9 : 0);
        }
        due("pusherIs(6, 0)", x.pusherIs(6, 0), BEYOND);
        due("pusherIs(-1, 0)", x.pusherIs(-1, 0), BEYOND);
        due("pusherIs(0, 4)", x.pusherIs(0, 4), BEYOND);
        due("pusherIs(0, -1)", x.pusherIs(0, -1), BEYOND);

        promise(4);
        due("become(3, 67)", x.become(3, 67), 4);
        due("KIND", x.pusherIs(3, 0), 6);
        due("m", x.pusherIs(3, 1), 7);
        due("become(3, 70)", x.become(3, 70), BEYOND);
        due("become(3, -1)", x.become(3, -1), BEYOND);
        due("become(6, 1)", x.become(6, 1), BEYOND);
        due("become(-1, 1)", x.become(-1, 1), BEYOND);
        due("KIND stays", x.pusherIs(3, 0), 6);

        promise(6);
        for (int left = 5; left >= 0; left--) due("leaves()", x.leaves(), left);
        due("leaves()", x.leaves(), STATE);
        due("pusherIs(0, 0)", x.pusherIs(0, 0), BEYOND);
        due("pusher(12) behind leaves", x.pusher(12), 0);
        due("its m", x.pusherIs(0, 1), 2);
    }

    private static void pushes() {
        promise(3);
        PastTheRim x = withPushers(5, 14, 23, 37, 46, 58);
        pushesAre(x, "ahead, SWING 0", 5, 6, 3, 0, 8, 8);
        x.car(3, 1);
        x.car(2, 17);
        pushesAre(x, "back, HEIGHT 17", 0, 0, 0, 7, 2, 0);
        x.car(3, 0);
        pushesAre(x, "ahead, HEIGHT 17", 5, 6, 3, 0, 10, 8);
        x.park(60);
        text(x, 1, "99");
        x.swing(0);
        x.car(3, 0);
        pushesAre(x, "ahead, SWING 1", 5, 6, 0, 0, 8, 0);
        for (int i = 0; i < 15; i++) x.swing(0);
        x.car(3, 0);
        pushesAre(x, "ahead, SWING 16", 5, 6, 3, 0, 8, 6);
        x.become(5, 51);
        due("TIRED isn't below 0", x.pusherIs(5, 2), 0);
        x.become(5, 69);
        due("SITTER", x.pusherIs(5, 2), 0);
    }

    private static void pushesAre(PastTheRim x, String when, int... want) {
        for (int i = 0; i < want.length; i++) due("PUSH of " + i + " " + when, x.pusherIs(i, 2), want[i]);
    }

    private static void asKinds() {
        promise(5);
        PastTheRim x = new PastTheRim();
        x.pusher(0);
        String[] over = {"0", "10", "20", "30", "410", "520", "60"};
        for (int kind = 0; kind < 7; kind++) {
            x.become(0, 10 * kind + 4);
            for (int other = 0; other < 7; other++) {
                boolean is = over[kind].indexOf('0' + other) >= 0;
                due("as(0, " + other + ") of KIND " + kind, x.as(0, other), is ? 4 : KIND);
            }
        }
        due("as(0, 7)", x.as(0, 7), BEYOND);
        due("as(0, -1)", x.as(0, -1), BEYOND);
        due("as(1, 0)", x.as(1, 0), BEYOND);
        due("as(-1, 5)", x.as(-1, 5), BEYOND);
    }

    private static void theCar() {
        promise(7);
        PastTheRim x = new PastTheRim();
        int[] least = {1, 0, 0, 0, 0};
        int[] most = {60, 99, 99, 1, 99};
        int[] was = {20, 0, 0, 0, 0};
        for (int what = 0; what < 5; what++) {
            due("car(" + what + ", below)", x.car(what, least[what] - 1), BEYOND);
            due("car(" + what + ", above)", x.car(what, most[what] + 1), BEYOND);
            due("car(" + what + ", most)", x.car(what, most[what]), was[what]);
            due("carIs(" + what + ")", x.carIs(what), most[what]);
            due("car(" + what + ", least)", x.car(what, least[what]), most[what]);
            due("carIs(" + what + ")", x.carIs(what), least[what]);
        }
        due("car(5, 1)", x.car(5, 1), BEYOND);
        due("car(-1, 1)", x.car(-1, 1), BEYOND);
        x.car(2, 99);
        due("OUT stays as it is", x.carIs(5), 0);

        promise(8);
        due("carIs(7)", x.carIs(7), BEYOND);
        due("carIs(-1)", x.carIs(-1), BEYOND);
        due("swing(0)", x.swing(0), 97);
        due("OUT", x.carIs(5), 1);
        due("OUTS", x.carIs(6), 1);
        x.car(2, 0);
        x.car(0, 60);
        due("OUT stays by car, too", x.carIs(5), 1);

        promise(9);
        x.car(1, 40);
        x.car(2, 50);
        x.car(3, 1);
        x.car(4, 7);
        due("park(0)", x.park(0), BEYOND);
        due("park(61)", x.park(61), BEYOND);
        due("still OUT", x.carIs(5), 1);
        due("park(33)", x.park(33), 1);
        int[] due = {33, 0, 0, 0, 7, 0, 1};
        for (int i = 0; i < 7; i++) due("carIs(" + i + ")", x.carIs(i), due[i]);
        due("SWING stays", x.count(1), 1);
    }

    private static void theTape() {
        promise(10);
        PastTheRim x = new PastTheRim();
        due("feed(1, 0)", x.feed(1, 0), BEYOND);
        due("feed(1, 9)", x.feed(1, 9), BEYOND);
        due("feed(1, -1)", x.feed(1, -1), BEYOND);
        for (int i = 1; i <= 7; i++) due("feed(.., 8)", x.feed(0x3030303030303030L, 8), 8 * i);
        due("feed(.., 5)", x.feed(0x3030303030L, 5), FULL);
        due("feed(.., 9) ahead of FULL", x.feed(0, 9), BEYOND);
        due("feed(.., 4)", x.feed(0x30303030L, 4), 60);
        due("feed(.., 1)", x.feed(0x30L, 1), FULL);
        due("count(2)", x.count(2), 60);
        due("fault at the fifth digit", x.text(0), -14);
        due("count(2)", x.count(2), 0);
        due("feed: the lowest byte first", x.feed(0xFFFF39382B37L, 4), 4);
        due("text(0)", x.text(0), 1);
        due("7+89", x.law(0, 0, 0, 0), 96);
    }

    private static void texts() {
        promise(11);
        PastTheRim x = new PastTheRim();
        feed(x, "12");
        due("text(2)", x.text(2), BEYOND);
        due("text(-1)", x.text(-1), BEYOND);
        due("THE TAPE stays", x.count(2), 2);
        due("text(0)", x.text(0), 1);
        due("law", x.law(0, 0, 0, 0), 12);
        due("a text in place of one ahead", text(x, 0, "13"), 1);
        due("law", x.law(0, 0, 0, 0), 13);
        faults(x);
        due("the one ahead stays", x.law(0, 0, 0, 0), 13);
        due("RUB still has none", x.law(1, 0, 50, 0), 7);
    }

    private static void faults(PastTheRim x) {
        String[] wrongs = {"", "+", "1+", "1 ", "1+*2", "12345", "1<2<3", "1=2>3", "(1", "(1<2", "()", "1)", "(1))", "!",
            "!!!!!!1", "((((((1", "!(!(!(1", "1!", "ii", "i1", "1i", "h", "i+n", "x", "1|", "1||2", "1&&2", "-1", "(1<2<3)",
            "(1;2)", "1" + (char) 200, "" + (char) 0, "!(1", "(1)(2)", "i*", "1/0%", "((((((", "!!!!!!", "D", "3=", "1<=2"};
        int[] places = {0, 0, 2, 1, 2, 4, 3, 3, 2, 4, 1, 1, 3, 1,
            5, 5, 5, 1, 1, 1, 1, 0, 2, 0, 2, 2, 2, 0, 4,
            2, 1, 0, 3, 3, 2, 4, 5, 5, 0, 2, 2};
        for (int i = 0; i < wrongs.length; i++) {
            due("FAULT of " + wrongs[i], text(x, 0, wrongs[i]), -10 - places[i]);
            due("THE TAPE is empty", x.count(2), 0);
        }
        due("w is no NAME of RUB", text(x, 1, "1+w"), -12);
        due("i is no NAME of RUB", text(x, 1, "i"), -10);
        StringBuilder most = new StringBuilder("1");
        while (most.length() < 59) most.append("+1");
        due("59 bytes", text(x, 1, most.toString()), 1);
        due("60 bytes that end too early", text(x, 1, most + "+"), -70);
        due("60 bytes", text(x, 1, "10" + most.substring(1)), 1);
        due("all of 60 bytes", x.law(1, 0, 0, 0), 39);
        x.untell(1);
    }

    private static void textsGive() {
        promise(13);
        gives("1|0", 1);
        gives("0|0", 0);
        gives("7&8", 1);
        gives("1&1", 1);
        gives("0&1", 0);
        gives("0|1", 1);
        gives("7&0", 0);
        gives("5|0&0", 1);
        gives("3<4", 1);
        gives("4<4", 0);
        gives("4=4", 1);
        gives("5>4", 1);
        gives("4>4", 0);
        gives("1+2<4", 1);
        gives("1<2+5", 1);
        gives("3|0=0", 1);
        gives("9-4-3", 2);
        gives("2+3*4", 14);
        gives("20/3*3", 18);
        gives("29%10%4", 1);
        gives("7/0+3", 3);
        gives("7%0+3", 3);
        gives("(0-7)/2+10", 7);
        gives("(0-7)%4+10", 7);
        gives("!0", 1);
        gives("!5", 0);
        gives("!!5", 1);
        gives("!1+5", 5);
        gives("!(1+5)", 0);
        gives("!!!!!7", 0);
        gives("(((((7)))))", 7);
        gives("!(!(!0))", 1);
        gives("(1)+((1))+(((((1)))))", 3);
        gives("0099", 99);
        gives("9999", 99);
        gives("0-5", 0);
        gives("9999*9999", 99);
        gives("9999*9999*9999", 0);
        gives("50*9999*9999", 99);
        gives("(1|0)*7+(2>1)*8", 15);
        gives("1<2&2<3", 1);
        gives("0&0=0", 0);
        gives("0=1|1", 1);
        gives("1-1&1", 0);
        gives("5>4=1", -13);
        wraps();
    }

    private static void gives(String signs, int want) {
        PastTheRim x = new PastTheRim();
        int got = text(x, 0, signs);
        due(signs, got == 1 ? x.law(0, 0, 0, 0) : got, want);
    }

    private static void wraps() {
        PastTheRim x = new PastTheRim();
        text(x, 0, "i/w+d");
        due("MIN by -1 wraps", x.law(0, MIN, 5, -1), 0);
        due("cut toward 0", x.law(0, -7, 10, 2), 7);
        due("i/w+d", x.law(0, 100, 5, 10), 15);
        text(x, 0, "i%w+d");
        due("MIN % -1", x.law(0, MIN, 5, -1), 5);
        text(x, 0, "i+d>w");
        due("MAX + 1 wraps", x.law(0, MAX, 1, 0), 0);
        text(x, 1, "h*10000");
        due("five digits", x.law(1, 1, 0, 0), 2);
        text(x, 1, "h+10*d-n");
        due("h+10*d-n", x.law(1, 1, 3, 2), 29);
        due("law(2, ..)", x.law(2, 0, 0, 0), BEYOND);
        due("law(-1, ..)", x.law(-1, 0, 0, 0), BEYOND);

        promise(12);
        due("untell(2)", x.untell(2), BEYOND);
        due("untell(-1)", x.untell(-1), BEYOND);
        due("untell(1)", x.untell(1), 1);
        due("untell(1)", x.untell(1), 0);
        due("GRIP has its text still", x.law(0, 40, 3, 42), 1);
        due("untell(0)", x.untell(0), 1);

        promise(13);
        due("without: 9 and WEIGHT, less ICE by 10", x.law(0, 39, 50, 4), 10);
        due("held at 0", x.law(0, 99, 0, 0), 0);
        due("held at 0", x.law(0, 100, 0, 0), 0);
        due("held at 99", x.law(0, 0, 0, 91), 99);
        due("ice cut toward 0", x.law(0, -19, 0, 0), 10);
        due("wraps", x.law(0, -10, 0, MAX), 0);
        due("without: 2 and DEPTH by 10", x.law(1, 99, 59, 99), 7);
        due("cut toward 0", x.law(1, 0, -19, 0), 1);
        due("held at 0", x.law(1, 0, -30, 0), 0);
        due("held at 99", x.law(1, 0, 5000, 0), 99);
    }

    private static void swing() {
        promise(14);
        PastTheRim x = new PastTheRim();
        due("swing(10)", x.swing(10), BEYOND);
        due("swing(-1)", x.swing(-1), BEYOND);
        due("swing(9)", x.swing(9), 5);
        due("SIDE", x.carIs(3), 1);
        due("SWING", x.count(1), 1);
        due("swing(0)", x.swing(0), 1);
        due("held at 0", x.swing(0), 0);
        due("SIDE", x.carIs(3), 1);
        x.car(1, 40);
        x.car(4, 1);
        due("GRIP 5 and 3 by SAND: 8 grips", x.swing(8), 4);
        due("SAND stays", x.carIs(4), 1);
        due("9 spins", x.swing(9), 0);
        due("ICE", x.carIs(1), 41);
        due("DEPTH", x.carIs(0), 21);
        due("SAND", x.carIs(4), 0);
        due("spins without SAND", x.swing(9), 0);
        due("SAND isn't below 0", x.carIs(4), 0);
        due("ICE by 4", x.carIs(1), 45);
        x.car(4, 9);
        x.car(1, 99);
        x.swing(9);
        due("SAND 1 less", x.carIs(4), 8);
        x.car(4, 0);
        x.car(0, 60);
        x.car(1, 98);
        x.swing(9);
        due("ICE at most 99", x.carIs(1), 99);
        due("DEPTH at most 60", x.carIs(0), 60);
        comesOut();
    }

    private static void comesOut() {
        PastTheRim x = new PastTheRim();
        x.car(0, 5);
        due("HEIGHT less than DEPTH by 1", x.swing(6), 4);
        due("not OUT", x.carIs(5), 0);
        due("HEIGHT is DEPTH", x.swing(3), 5);
        due("OUT", x.carIs(5), 1);
        due("OUTS", x.carIs(6), 1);
        due("STATE", x.swing(0), STATE);
        due("BEYOND ahead of STATE", x.swing(10), BEYOND);
        due("SWING stays", x.count(1), 2);
        x = withPushers(9, 19, 49, 49, 49, 49);
        x.car(2, 90);
        x.car(0, 60);
        due("HEIGHT at most 99", x.swing(9), 99);
        x = withPushers(69);
        text(x, 0, "w");
        x.car(1, 99);
        due("WEIGHT is the text's w", x.now(0), 9);
        due("so 9 grips", x.swing(9), 5);
        x = new PastTheRim();
        x.car(0, 9);
        x.car(2, 12);
        text(x, 0, "0");
        due("by a spin the rim is higher, too", x.swing(1), 10);
        due("DEPTH is 10: OUT", x.carIs(5), 1);
        x = new PastTheRim();
        x.car(0, 10);
        x.car(2, 13);
        text(x, 0, "0");
        due("by a spin the rim is higher", x.swing(1), 10);
        due("DEPTH is 11: not OUT", x.carIs(5), 0);
        x = new PastTheRim();
        x.car(2, 33);
        text(x, 1, "h/2+d/10+n");
        due("RUB is as ahead of it", x.swing(0), 15);
        due("RUB by HEIGHT, DEPTH, SWING", x.now(2), 10);
    }

    private static void draws() {
        promise(15);
        PastTheRim x = new PastTheRim();
        due("swings(0)", x.swings(0), BEYOND);
        due("swings(41)", x.swings(41), BEYOND);
        int z = 1;
        int height = 0;
        for (int i = 0; i < 3; i++) {
            z = z * 1103515245 + 12345;
            height = Math.max(0, height + (z >>> 8) % 10 - 4);
        }
        due("swings(3)", x.swings(3), 3);
        due("HEIGHT", x.carIs(2), height);
        due("z", x.count(5), z);
        due("SWING", x.count(1), 3);
        x.park(1);
        int done = x.swings(40);
        due("till it is OUT", x.carIs(5), 1);
        due("as many", x.count(1), 3 + done);
        for (int i = 0; i < done; i++) z = z * 1103515245 + 12345;
        due("a draw by each", x.count(5), z);
        due("swings(1)", x.swings(1), STATE);
        due("swings(0) ahead of STATE", x.swings(0), BEYOND);

        promise(17);
        PastTheRim y = new PastTheRim();
        y.seed(-77789);
        int low = -77789 * 1103515245 + 12345;
        due("a z below 0", low < 0 ? 1 : 0, 1);
        y.swings(1);
        due("draws above it", y.carIs(2), Math.max(0, (low >>> 8) % 10 - 4));
        due("seed(MIN)", x.seed(MIN), z);
        due("seed(5)", x.seed(5), MIN);
        due("count(5)", x.count(5), 5);
        due("seed(BEYOND)", x.seed(BEYOND), 5);
        int before = x.told(1);
        due("seed(0) answers a number that is no ERROR", x.seed(0), BEYOND);
        due("not counted", x.told(1), before);
        lastSwing();
    }

    private static void lastSwing() {
        promise(15);
        PastTheRim x = new PastTheRim();
        text(x, 1, "99");
        for (int i = 0; i < 249; i++) x.swings(40);
        due("SWING", x.count(1), 9960);
        due("swings(38)", x.swings(38), 38);
        due("till SWING is 9999", x.swings(40), 1);
        due("SWING", x.count(1), 9999);
        due("STATE", x.swings(1), STATE);
        promise(14);
        due("STATE at 9999", x.swing(0), STATE);
        promise(19);
        x.untell(1);
        due("would at 9999", x.would(9, 0), 5);
        x.car(0, 4);
        promise(20);
        due("plan at 9999", x.plan(1, -2), 1);
        promise(21);
        text(x, 1, "n>9999");
        due("SWING beyond 9999", x.steady(2), 3);
        x.image();
        x.park(60);
        due("restore()", x.restore(), 9999);
        x.park(60);
        due("park leaves SWING", x.count(1), 9999);
    }

    private static void shovel() {
        promise(16);
        PastTheRim x = new PastTheRim();
        x.car(1, 9);
        x.car(2, 19);
        due("shovel(0)", x.shovel(0), BEYOND);
        due("shovel(21)", x.shovel(21), BEYOND);
        due("shovel(1)", x.shovel(1), 19);
        due("ICE", x.carIs(1), 7);
        due("not OUT by it", x.carIs(5), 0);
        due("shovel(4)", x.shovel(4), 15);
        due("ICE isn't below 0", x.carIs(1), 0);
        due("shovel(20)", x.shovel(20), 1);
        due("SWING", x.count(1), 0);

        promise(18);
        x = withPushers(3, 39, 65, 64);
        x.car(1, 50);
        due("GRIP", x.now(0), 13);
        due("PUSH", x.now(1), 3);
        due("RUB", x.now(2), 4);
        x.car(4, 1);
        due("GRIP with SAND", x.now(0), 16);
        x.car(3, 1);
        due("PUSH", x.now(1), 9);
        text(x, 0, "200");
        due("GRIP: held, then 3 more", x.now(0), 102);
        due("now(3)", x.now(3), BEYOND);
        due("now(-1)", x.now(-1), BEYOND);
    }

    private static void would() {
        promise(19);
        PastTheRim x = new PastTheRim();
        x.car(1, 30);
        long before = sight(x);
        due("HEIGHT", x.would(6, 0), 2);
        due("DEPTH", x.would(6, 1), 20);
        due("ICE", x.would(6, 2), 30);
        due("SPINS", x.would(6, 3), 0);
        due("over", x.would(6, 4), 0);
        due("HEIGHT", x.would(8, 0), 0);
        due("DEPTH", x.would(8, 1), 21);
        due("ICE", x.would(8, 2), 32);
        due("SPINS", x.would(8, 3), 1);
        due("nothing changes", sight(x), before);
        due("would(10, 0)", x.would(10, 0), BEYOND);
        due("would(-1, 0)", x.would(-1, 0), BEYOND);
        due("would(0, 5)", x.would(0, 5), BEYOND);
        due("would(0, -1)", x.would(0, -1), BEYOND);
        x.car(0, 2);
        due("over", x.would(4, 4), 1);
        due("swing(4)", x.swing(4), 2);
        x.car(2, 0);
        due("OUT, but not over", x.would(0, 4), 0);
        due("OUT, and over", x.would(4, 4), 1);
    }

    private static void plan() {
        promise(20);
        PastTheRim x = new PastTheRim();
        due("plan(0, 0)", x.plan(0, 0), BEYOND);
        due("plan(5, 0)", x.plan(5, 0), BEYOND);
        due("plan(2, 2)", x.plan(2, 2), BEYOND);
        due("plan(2, -3)", x.plan(2, -3), BEYOND);
        due("not OUT", x.plan(3, -2), 0);
        due("HEIGHT less DEPTH", x.plan(3, -1), -5);
        due("all gas", x.plan(3, 2), 9);
        due("OUT behind 4", x.plan(4, -2), 4);
        due("the first as a row", x.plan(4, 0), 9);
        due("the last", x.plan(4, 3), 9);
        x.car(0, 9);
        due("OUT behind 2", x.plan(4, -2), 2);
        due("the least first gas", x.plan(4, 0), 4);
        due("then 9", x.plan(4, 1), 9);
        due("the rest isn't used", x.plan(4, 2), 0);
        due("the rest isn't used", x.plan(4, 3), 0);
        due("HEIGHT less DEPTH then", x.plan(4, -1), 4 - 2 + 9 - 2 - 9);
        x.car(2, 40);
        x.car(1, 90);
        due("OUT at once", x.plan(3, 0), 0);
        due("HEIGHT less DEPTH", x.plan(3, -1), 40 - 2 - 9);
        x.car(0, 60);
        text(x, 1, "99");
        due("of like ones the first", x.plan(3, 0), 0);
        due("and last", x.plan(3, 2), 0);
        due("HEIGHT less DEPTH", x.plan(3, -1), -60);
        text(x, 1, "0");
        x.car(0, 1);
        x.swing(9);
        due("STATE", x.plan(1, 0), STATE);
        due("BEYOND ahead", x.plan(1, 1), BEYOND);
        pushersInPlan();
    }

    private static void pushersInPlan() {
        PastTheRim x = withPushers(29, 39);
        x.car(0, 59);
        text(x, 1, "n*9");
        long before = sight(x);
        due("HEIGHT less DEPTH behind 1", x.plan(1, -1), 18 - 59);
        due("behind 2", x.plan(2, -1), 18 + 18 - 9 - 59);
        due("nothing changes", sight(x), before);
    }

    private static void steady() {
        promise(21);
        PastTheRim x = new PastTheRim();
        due("steady(9)", x.steady(9), 4);
        due("steady(5)", x.steady(5), 20);
        due("steady(4)", x.steady(4), NONE);
        due("steady(10)", x.steady(10), BEYOND);
        due("steady(-1)", x.steady(-1), BEYOND);
        x.car(0, 60);
        text(x, 1, "2");
        due("by 60, the last", x.steady(3), 60);
        text(x, 1, "2+(n=9)");
        due("by 61", x.steady(3), NONE);
        promise(22);
        due("least()", x.least(), 4);
        x.untell(1);
        due("least()", x.least(), 9);
        text(x, 1, "9");
        due("least()", x.least(), NONE);
        x.untell(1);
        x.car(0, 1);
        due("least()", x.least(), 3);
        due("of DEPTH 1", x.steady(3), 1);
        x.car(2, 50);
        due("it isn't OUT yet", x.steady(0), 1);
        x.swing(0);
        due("it is OUT", x.least(), 0);
        promise(21);
        due("it is OUT", x.steady(9), 0);
        due("BEYOND also then", x.steady(10), BEYOND);
        due("nothing changes", x.count(1), 1);
    }

    private static void crew() {
        promise(23);
        PastTheRim x = withPushers(4, 9, 5, 64, 39);
        due("crew(10, 1, 0)", x.crew(10, 1, 0), BEYOND);
        due("crew(-1, 1, 0)", x.crew(-1, 1, 0), BEYOND);
        due("crew(1, 0, 0)", x.crew(1, 0, 0), BEYOND);
        due("crew(1, 61, 0)", x.crew(1, 61, 0), BEYOND);
        due("crew(1, 1, 2)", x.crew(1, 1, 2), BEYOND);
        due("crew(1, 1, -1)", x.crew(1, 1, -1), BEYOND);
        due("none needed", x.crew(9, 4, 0), 0);
        due("none needed", x.crew(9, 4, 1), 0);
        x.car(0, 10);
        due("one", x.crew(8, 1, 0), 1);
        due("the least set of one", x.crew(8, 1, 1), 2);
        due("two at once", x.crew(0, 1, 0), 2);
        due("4 and 9", x.crew(0, 1, 1), 3);
        due("gas 7: 5 + 7 - 3 is 9", x.crew(7, 1, 1), 2);
        due("with no set", x.crew(0, 60, 0), 1);
        text(x, 1, "60");
        due("with no set", x.crew(9, 60, 0), NONE);
        x.untell(1);
        text(x, 0, "w");
        x.become(1, 3);
        due("gas needs WEIGHT of the set, too", x.crew(4, 8, 1), 9);
        due("of two", x.crew(4, 8, 0), 2);
        allAreNeeded();
        x.car(2, 20);
        x.swing(0);
        due("it is OUT", x.crew(0, 1, 0), 0);
        due("it is OUT", x.crew(0, 1, 1), 0);
    }

    private static void allAreNeeded() {
        PastTheRim x = withPushers(9, 9, 9, 9, 9, 9);
        x.car(0, 45);
        due("five", x.crew(6, 1, 1), 31);
        due("all six", x.crew(0, 1, 0), 6);
        due("all six", x.crew(0, 1, 1), 63);
        x.car(0, 60);
        due("not even all", x.crew(9, 1, 1), NONE);
    }

    private static void deepest() {
        promise(24);
        PastTheRim x = new PastTheRim();
        due("deepest(9, 1)", x.deepest(9, 1), 7);
        due("deepest(9, 60)", x.deepest(9, 60), 60);
        due("deepest(0, 60)", x.deepest(0, 60), NONE);
        due("deepest(2, 60)", x.deepest(2, 60), NONE);
        due("deepest(3, 60)", x.deepest(3, 60), 9);
        due("deepest(10, 1)", x.deepest(10, 1), BEYOND);
        due("deepest(-1, 1)", x.deepest(-1, 1), BEYOND);
        due("deepest(1, 0)", x.deepest(1, 0), BEYOND);
        due("deepest(1, 61)", x.deepest(1, 61), BEYOND);
        due("DEPTH stays", x.carIs(0), 20);
        x.car(2, 30);
        due("from HEIGHT 30", x.deepest(0, 1), 26);
        text(x, 1, "(d<50)*99");
        due("not below, but there", x.deepest(9, 4), 60);
        x.untell(1);
        x.swing(0);
        due("STATE", x.deepest(9, 1), STATE);
        due("BEYOND ahead", x.deepest(9, 0), BEYOND);

        promise(25);
        PastTheRim low = new PastTheRim();
        low.car(0, 9);
        due("the least DEPTH", low.deepest(3, 1), 1);
        due("STATE", x.strokes(9, 1), STATE);
        due("BEYOND ahead", x.strokes(9, 61), BEYOND);
        due("BEYOND ahead", x.strokes(10, 1), BEYOND);
        x.park(20);
        due("strokes(9, 4)", x.strokes(9, 4), 0);
        due("strokes(9, 3)", x.strokes(9, 3), 2);
        due("strokes(9, 1)", x.strokes(9, 1), 13);
        due("strokes(3, 1)", x.strokes(3, 1), 19);
        due("strokes(2, 60)", x.strokes(2, 60), NONE);
        due("strokes(9, 0)", x.strokes(9, 0), BEYOND);
        due("strokes(-1, 1)", x.strokes(-1, 1), BEYOND);
        x.car(0, 30);
        due("not by 20", x.strokes(3, 3), NONE);
        x.car(0, 29);
        due("by 20", x.strokes(3, 9), 20);
        x.car(0, 5);
        x.car(1, 20);
        due("ICE goes by strokes, too", x.strokes(9, 1), 6);
        due("DEPTH stays", x.carIs(0), 5);
        due("ICE stays", x.carIs(1), 20);
    }

    private static void heights(PastTheRim x, int sheet, int bits, int... v) {
        x.sheet(sheet, bits, v.length);
        for (int i = 0; i < v.length; i++) x.put(sheet, i, v[i]);
    }

    private static void fits() {
        promise(26);
        PastTheRim x = new PastTheRim();
        due("missing", x.fits(0, -1), NONE);
        due("BEYOND ahead", x.fits(0, 3), BEYOND);
        due("BEYOND ahead", x.fits(0, -2), BEYOND);
        due("no such SHEET", x.fits(4, -1), BEYOND);
        due("no such SHEET", x.fits(-1, -1), BEYOND);
        x.sheet(0, 8, 0);
        due("no numbers", x.fits(0, -1), NONE);
        x.sheet(0, 8, 4);
        due("four numbers", x.fits(0, -1), NONE);
        heights(x, 0, 8, 0, 0, 0);
        due("all of 0 to 4", x.fits(0, -1), 125);
        due("the first", x.fits(0, 2), 0);
        heights(x, 1, 16, 0, 5);
        due("0 to 4, then 9", x.fits(1, -1), 5);
        due("the first", x.fits(1, 0), 0);
        due("then", x.fits(1, 1), 9);
        due("no such place", x.fits(1, 2), NONE);
        heights(x, 2, 32, 1, 7);
        due("no row", x.fits(2, -1), 0);
        due("no row", x.fits(2, 0), NONE);
        heights(x, 3, 32, 0);
        text(x, 0, "0");
        x.car(0, 9);
        due("any gas", x.fits(3, -1), 10);
        x.car(0, 1);
        x.untell(0);
        heights(x, 3, 32, 2, 0);
        due("it is OUT behind 1", x.fits(3, -1), 0);
        x.car(0, 2);
        heights(x, 3, 32, 1, 2);
        due("OUT with the last is fine", x.fits(3, -1), 1);
        due("3", x.fits(3, 0), 3);
        due("3", x.fits(3, 1), 3);
        x.swing(9);
        heights(x, 3, 32, 9);
        due("it is OUT: no row", x.fits(3, -1), 0);
        due("it is OUT: no row", x.fits(3, 0), NONE);
        due("nothing changes", x.count(1), 1);
    }

    private static void odds() {
        promise(27);
        PastTheRim x = new PastTheRim();
        due("odds(0, 0)", x.odds(0, 0), BEYOND);
        due("odds(4, 0)", x.odds(4, 0), BEYOND);
        due("odds(1, 2)", x.odds(1, 2), BEYOND);
        due("odds(1, -1)", x.odds(1, -1), BEYOND);
        due("0 by 1", x.odds(2, 0), 0);
        due("0 by 1", x.odds(2, 1), 1);
        x.car(0, 7);
        due("1 by 10", x.odds(1, 0), 1);
        due("1 by 10", x.odds(1, 1), 10);
        x.car(0, 3);
        due("gas 5 to 9", x.odds(1, 0), 1);
        due("gas 5 to 9", x.odds(1, 1), 2);
        x.car(0, 1);
        x.car(2, 9);
        due("1 by 1", x.odds(3, 0), 1);
        due("1 by 1", x.odds(3, 1), 1);
        x.car(2, 0);
        int outs = 0;
        for (int a = 0; a < 10; a++) {
            for (int b = 0; b < 10; b++) {
                for (int c = 0; c < 10; c++) outs += a >= 3 || b >= 3 || c >= 3 ? 1 : 0;
            }
        }
        due("3 of 10 don't, each time", x.odds(3, 0), outs);
        due("973 by 1000", x.odds(3, 1), 1000);
        due("91 by 100", x.odds(2, 0), 91);
        due("91 by 100", x.odds(2, 1), 100);
        x.swing(9);
        due("STATE", x.odds(1, 0), STATE);
        due("BEYOND ahead", x.odds(1, 2), BEYOND);
    }

    private static void says(int km, int number, int voice, int x, int want, int... bodies) {
        PastTheRim p = new PastTheRim();
        for (int i = 0; i < number; i++) p.pusher(0);
        p.pusher(km);
        String call = "voice " + voice + " of " + km + " as " + number + ", x " + x;
        promise(28);
        due(call, p.voice(number, voice, x), want);
        promise(29);
        due("bodies of " + call, p.count(4), bodies.length);
        for (int i = 0; i < bodies.length; i++) due("body(" + i + ") of " + call, p.body(i), bodies[i]);
        due("body behind the last", p.body(bodies.length), NONE);
    }

    private static void voices() {
        says(4, 2, 0, 7, 9, 10);
        says(4, 2, 1, 7, 18, 11, 10);
        says(4, 2, 2, 7, 14, 12, 11, 10);
        says(4, 2, 3, -7, -3, 13);
        says(14, 2, 0, 7, 5, 20, 10);
        says(14, 2, 1, 7, 10, 11, 20, 10);
        says(14, 2, 2, 7, 6, 12, 11, 20, 10);
        says(14, 2, 3, 7, 3 - 2, 21, 13, 11, 20, 10);
        says(24, 2, 0, 7, 9, 10);
        says(24, 2, 1, 7, -18, 30, 11, 10);
        says(24, 2, 2, 7, -22, 12, 30, 11, 10);
        says(24, 2, 3, 7, 3, 13);
        says(34, 2, 0, 7, 9, 10);
        says(34, 2, 1, 7, 18, 11, 10);
        says(34, 2, 2, -7, -6, 40, 12, 11, 10);
        says(34, 2, 3, 9, 4, 13);
        says(44, 2, 0, 7, 15, 50, 20, 10);
        says(44, 2, 1, 7, 30, 11, 50, 20, 10);
        says(44, 2, 2, 7, 26 ^ 2, 51, 12, 11, 50, 20, 10);
        says(44, 2, 3, 7, 3 - 6, 21, 13, 11, 50, 20, 10);
        says(54, 2, 0, 7, 9, 10);
        says(54, 2, 1, 7, -20, 60, 30, 11, 10);
        says(54, 2, 2, 7, -24, 12, 60, 30, 11, 10);
        says(54, 2, 3, 7, 3, 13);
        says(64, 2, 0, 7, 9, 70);
        says(64, 2, 1, 7, 22, 71, 11, 70);
        says(64, 2, 2, 7, 18, 12, 71, 11, 70);
        says(64, 2, 3, 7, 3, 13);
        says(0, 1, 3, MIN, MIN, 13);
        says(0, 1, 0, MAX, MIN, 10);
        says(0, 1, 1, MAX, 0, 11, 10);
        says(50, 1, 1, MAX, 0 - (MIN + 1) * 2, 60, 30, 11, 10);
        says(0, 0, 0, BEYOND, BEYOND, 10);
        says(2, 2, 3, 7, PARTED, 13);
        says(0, 0, 3, 0, PARTED, 13);
        says(12, 2, 3, 7, PARTED, 21, 13);
        says(22, 2, 3, 7, PARTED, 13);
        says(32, 2, 3, 7, PARTED, 13);
        says(42, 2, 3, 7, PARTED, 21, 13);
        says(52, 2, 3, 7, PARTED, 13);
        says(62, 2, 3, 7, PARTED, 13);
        wrongVoices();
    }

    private static void wrongVoices() {
        promise(28);
        PastTheRim x = withPushers(7, 11);
        due("voice(0, 1, 3)", x.voice(0, 1, 3), 6);
        due("voice(2, 0, 0)", x.voice(2, 0, 0), BEYOND);
        due("voice(-1, 0, 0)", x.voice(-1, 0, 0), BEYOND);
        due("voice(0, 4, 0)", x.voice(0, 4, 0), BEYOND);
        due("voice(0, -1, 0)", x.voice(0, -1, 0), BEYOND);
        promise(29);
        due("BEYOND leaves THE TRACE", x.count(4), 2);
        due("BEYOND leaves THE TRACE", x.body(0), 11);
        promise(28);
        due("voice(1, 3, 8)", x.voice(1, 3, 8), PARTED);
        due("told(6)", x.told(6), 1);
        promise(29);
        due("PARTED is the latest voice()", x.count(4), 2);
        due("it began with 21", x.body(0), 21);
        due("13 parts", x.body(1), 13);
        due("slips(1) doesn't begin", x.body(2), NONE);
        due("BEYOND behind PARTED", x.voice(1, 4, 8), BEYOND);
        due("BEYOND leaves THE TRACE", x.body(1), 13);
        due("body(-1)", x.body(-1), NONE);
        due("body(MAX)", x.body(MAX), NONE);
        promise(28);
        x.voice(0, 0, BEYOND);
        due("a number that is no ERROR isn't counted", x.told(1), 5);
        due("a new one in place of it", x.count(4), 1);
    }

    private static void sheets() {
        promise(30);
        PastTheRim x = new PastTheRim();
        due("sheet(4, 8, 1)", x.sheet(4, 8, 1), BEYOND);
        due("sheet(-1, 8, -1)", x.sheet(-1, 8, -1), BEYOND);
        due("sheet(0, 9, -1)", x.sheet(0, 9, -1), BEYOND);
        due("sheet(0, -8, 1)", x.sheet(0, -8, 1), BEYOND);
        due("sheet(0, 8, -1)", x.sheet(0, 8, -1), STATE);
        due("sheet(0, 8, MIN)", x.sheet(0, 8, MIN), STATE);
        due("sheet(0, 8, 25)", x.sheet(0, 8, 25), BEYOND);
        due("still missing", x.put(0, 0, 0), NONE);
        due("sheet(0, 8, 24)", x.sheet(0, 8, 24), 1);
        due("put(0, 23, 1)", x.put(0, 23, 1), 1);
        due("sheet(0, 64, 1)", x.sheet(0, 64, 1), BEYOND);
        due("it stays", x.put(0, 23, 1), 1);
        due("sheet(0, 0, -5): n doesn't matter", x.sheet(0, 0, -5), 1);
        due("missing", x.put(0, 0, 0), NONE);
        due("sheet(0, 0, 99)", x.sheet(0, 0, 99), 1);
        due("sheet(3, 32, 0)", x.sheet(3, 32, 0), 1);
        due("no numbers", x.put(3, 0, 0), BEYOND);
        heights(x, 1, 8, 9, 9);
        x.sheet(1, 8, 2);
        x.pusher(5);
        x.pusher(5);
        due("levels(1)", x.levels(1), 2);
        due("all 0 again", x.pusherIs(0, 1), 0);
        due("all 0 again", x.pusherIs(1, 1), 0);

        promise(31);
        due("put(4, 0, 0)", x.put(4, 0, 0), BEYOND);
        due("put(-1, 0, 0)", x.put(-1, 0, 0), BEYOND);
        due("put(2, 99, 0): NONE ahead", x.put(2, 99, 0), NONE);
        due("put(1, 2, 0)", x.put(1, 2, 0), BEYOND);
        due("put(1, -1, 0)", x.put(1, -1, 0), BEYOND);
        lowestBits(x, 8, 0x305, 1);
        lowestBits(x, 8, -0x100 + 5, 1);
        lowestBits(x, 8, 0xFF, 0);
        lowestBits(x, 16, 0x105, 0);
        lowestBits(x, 16, 0x70005, 1);
        lowestBits(x, 32, 0x10005, 0);
        lowestBits(x, 32, 5, 1);
        lowestBits(x, 32, MIN + 5, 0);
    }

    private static void lowestBits(PastTheRim x, int bits, int v, int want) {
        heights(x, 2, bits, v);
        due(bits + " bits of " + v, x.levels(2), want);
    }

    private static void move() {
        promise(32);
        PastTheRim x = withPushers(0, 0, 0, 0, 0, 0);
        heights(x, 0, 8, 1, 2, 3, 4, 5, 6);
        x.sheet(1, 8, 6);
        due("move(4, ..)", x.move(4, 0, 0, 0, 1), BEYOND);
        due("move(0, .., 4)", x.move(0, 0, 4, 0, 1), BEYOND);
        due("move(-1, .., 2)", x.move(-1, 0, 2, 0, 1), BEYOND);
        due("move(0, .., 2): missing", x.move(0, -1, 2, 0, 1), NONE);
        due("move(2, .., 0): missing", x.move(2, 0, 0, 0, -1), NONE);
        x.sheet(2, 16, 6);
        due("unlike bits ahead of BEYOND", x.move(0, -1, 2, 0, 1), KIND);
        due("n below 0", x.move(0, 0, 1, 0, -1), BEYOND);
        due("i below 0", x.move(0, -1, 1, 0, 1), BEYOND);
        due("j below 0", x.move(0, 0, 1, -1, 1), BEYOND);
        due("not there", x.move(0, 1, 1, 0, 6), BEYOND);
        due("no room there", x.move(0, 0, 1, 1, 6), BEYOND);
        due("n MAX", x.move(0, 1, 1, 1, MAX), BEYOND);
        due("i MAX", x.move(0, MAX, 1, 1, 1), BEYOND);
        due("j MAX", x.move(0, 1, 1, MAX, 1), BEYOND);
        due("nothing moved", x.levels(1), 6);
        for (int i = 0; i < 6; i++) due("m of " + i, x.pusherIs(i, 1), 0);
        due("move(0, 2, 1, 1, 3)", x.move(0, 2, 1, 1, 3), 3);
        levelsAre(x, 1, 0, 3, 4, 5, 0, 0);
        due("to itself, ahead", x.move(0, 0, 0, 2, 4), 4);
        levelsAre(x, 0, 1, 2, 1, 2, 3, 4);
        due("to itself, back", x.move(0, 2, 0, 0, 4), 4);
        levelsAre(x, 0, 1, 2, 3, 4, 3, 4);
        due("none of them", x.move(0, 6, 1, 6, 0), 0);
        due("all of them", x.move(0, 0, 1, 0, 6), 6);
        levelsAre(x, 1, 1, 2, 3, 4, 3, 4);
    }

    private static void levelsAre(PastTheRim x, int sheet, int... want) {
        due("levels(" + sheet + ")", x.levels(sheet), want.length);
        for (int i = 0; i < want.length; i++) due("m of " + i, x.pusherIs(i, 1), want[i]);
    }

    private static void levels() {
        promise(33);
        PastTheRim x = withPushers(11, 62, 43);
        due("levels(4)", x.levels(4), BEYOND);
        due("levels(-1)", x.levels(-1), BEYOND);
        due("levels(0)", x.levels(0), NONE);
        x.sheet(0, 16, 0);
        due("no numbers", x.levels(0), 0);
        heights(x, 0, 16, 9, 0, 7, 5);
        due("no PUSHER for the fourth", x.levels(0), 3);
        due("m", x.pusherIs(0, 1), 9);
        due("m", x.pusherIs(1, 1), 0);
        due("m", x.pusherIs(2, 1), 7);
        due("KIND stays", x.pusherIs(2, 0), 4);
        heights(x, 0, 32, 1, 10, 3);
        due("up to 10", x.levels(0), 1);
        due("m", x.pusherIs(0, 1), 1);
        due("m stays", x.pusherIs(2, 1), 7);
        heights(x, 0, 8, 4, 5);
        due("no more numbers", x.levels(0), 2);
        due("m stays", x.pusherIs(2, 1), 7);
        heights(x, 0, 32, -1, 2, 3);
        int told = x.told(1) + x.told(2) + x.told(3);
        due("up to -1", x.levels(0), 0);
        due("m stays", x.pusherIs(0, 1), 4);
        due("no ERROR", x.told(1) + x.told(2) + x.told(3), told);
    }

    private static void judge() {
        promise(34);
        PastTheRim x = new PastTheRim();
        due("judge(4)", x.judge(4), BEYOND);
        due("judge(-1)", x.judge(-1), BEYOND);
        due("judge(0)", x.judge(0), NONE);
        x.car(0, 8);
        text(x, 1, "0");
        x.seed(21);
        x.image();
        int[] heights = new int[20];
        int n = 0;
        while (x.carIs(5) == 0 && n < 19) {
            x.swings(1);
            heights[n] = x.carIs(2);
            n++;
        }
        x.restore();
        x.sheet(0, 8, n + 1);
        for (int i = 0; i < n; i++) x.put(0, i, heights[i]);
        x.put(0, n, heights[n - 1]);
        long before = sight(x);
        due("till it is OUT", x.judge(0), n);
        due("nothing changes", sight(x), before);
        due("two at least", n > 1 ? 1 : 0, 1);
        x.put(0, 0, 99);
        due("from the first on", x.judge(0), 0);
        x.put(0, 0, heights[0]);
        x.put(0, 1, 99);
        due("from the first on", x.judge(0), 1);
        x.sheet(1, 8, 0);
        due("no numbers", x.judge(1), 0);
        text(x, 1, "99");
        x.sheet(1, 8, 3);
        due("as many as there are", x.judge(1), 3);
        text(x, 1, "0");
        x.swings(n);
        due("OUT", x.carIs(5), 1);
        heights(x, 1, 8, x.carIs(2));
        due("it is OUT", x.judge(1), 0);
        x.car(2, 99);
        heights(x, 1, 8, 99);
        due("it is OUT, and would stay so high", x.judge(1), 0);
    }

    private static void image() {
        promise(35);
        PastTheRim x = withPushers(5, 61);
        int[] car = {33, 11, 12, 1, 13};
        for (int i = 0; i < 5; i++) x.car(i, car[i]);
        text(x, 0, "w+3");
        text(x, 1, "4");
        feed(x, "1+i");
        x.tell(8);
        x.seed(99);
        x.voice(0, 1, 1);
        x.swing(0);
        heights(x, 0, 8, 4, 5);
        due("image()", x.image(), 1);
        due("image()", x.image(), 2);
        long before = sight(x);
        x.text(0);
        text(x, 0, "5");
        x.untell(1);
        x.leaves();
        x.become(0, 44);
        x.pusher(29);
        x.pusher(19);
        x.check();
        x.tell(1);
        x.tell(2);
        x.seed(4);
        x.park(3);
        x.car(4, 5);
        x.swings(40);
        promise(36);
        due("restore()", x.restore(), 1);
        due("all is as it was", sight(x), before);
        due("the tape is 1+i", x.text(0), 1);
        due("1+i", x.law(0, 5, 0, 0), 6);
        due("RUB has its text", x.law(1, 9, 9, 9), 4);
        due("RUB has its text", x.untell(1), 1);
        due("8 waits", x.check(), 1);
        due("the IMAGE stays", x.restore(), 1);
        due("w+3 again", x.law(0, 5, 0, 4), 7);
        due("image() goes on", x.image(), 3);
        notInImage(x);
    }

    private static void notInImage(PastTheRim x) {
        x.image();
        x.sheet(1, 8, 3);
        x.put(0, 0, 9);
        x.voice(0, 2, 1);
        x.now(9);
        int told = x.told(1);
        x.restore();
        due("SHEETS stay", x.put(1, 2, 0), 1);
        due("SHEETS stay", x.levels(0), 2);
        due("SHEETS stay", x.pusherIs(0, 1), 9);
        due("THE TRACE stays", x.body(0), 12);
        due("told stays", x.told(1), told);
        due("image() counts on", x.image(), 5);
        PastTheRim fresh = new PastTheRim();
        due("restore()", fresh.restore(), NONE);
        due("told(2)", fresh.told(2), 1);
    }

    private static void waiting() {
        promise(37);
        PastTheRim x = withPushers(5, 14, 33);
        for (int i = 1; i <= 24; i++) due("tell(" + i + ")", x.tell(i), i);
        due("tell(25)", x.tell(25), FULL);
        due("count(3)", x.count(3), 24);

        promise(38);
        due("check()", x.check(), 1);
        due("none wait then", x.count(3), 0);
        due("none: all are so", x.check(), 0);
        x.tell(5);
        due("one", x.check(), 0);
        x.tell(5);
        x.tell(6);
        x.tell(0);
        due("all three", x.check(), 0);
        x.tell(5);
        x.tell(4);
        x.tell(9);
        due("the second", x.check(), 2);
        x.tell(5);
        x.tell(6);
        x.tell(0);
        x.tell(0);
        due("there is no fourth", x.check(), 4);
        x.car(3, 1);
        x.tell(0);
        x.tell(0);
        x.tell(3);
        due("back", x.check(), 0);
        due("none wait", x.count(3), 0);
    }

    private static void counts() {
        promise(39);
        PastTheRim x = withPushers(5, 14);
        x.swing(0);
        x.feed(0x313131L, 3);
        x.tell(1);
        x.voice(1, 1, 1);
        x.seed(-5);
        int[] want = {2, 1, 3, 1, 3, -5};
        for (int i = 0; i < 6; i++) due("count(" + i + ")", x.count(i), want[i]);
        due("count(6)", x.count(6), BEYOND);
        due("count(-1)", x.count(-1), BEYOND);

        promise(40);
        x = new PastTheRim();
        x.now(9);
        x.restore();
        x.leaves();
        x.leaves();
        for (int i = 0; i < 7; i++) x.pusher(0);
        x.as(0, 1);
        x.voice(0, 3, 0);
        int[] due = {0, 1, 1, 2, 1, 1, 1};
        for (int k = 1; k < 7; k++) due("told(" + k + ")", x.told(k), due[k]);
        due("told(0)", x.told(0), BEYOND);
        due("told(7)", x.told(7), BEYOND);
        due("told(MIN)", x.told(MIN), BEYOND);
        due("counted, too", x.told(1), 4);
        text(x, 0, "+");
        due("a FAULT is no ERROR", x.told(1), 4);
    }

    public static void main(String[] args) {
        newObject();
        pushers();
        pushes();
        asKinds();
        theCar();
        theTape();
        texts();
        textsGive();
        swing();
        draws();
        shovel();
        would();
        plan();
        steady();
        crew();
        deepest();
        fits();
        odds();
        voices();
        sheets();
        move();
        levels();
        judge();
        image();
        waiting();
        counts();
        System.out.println("PromisesTest: " + checks + " checks, " + wrong + " wrong");
        if (wrong != 0) System.exit(1);
    }
}
