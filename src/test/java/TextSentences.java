/** Sentences of the tape, the texts and the laws: terms 2, promises 10 to 13. */
final class TextSentences {
    private static final int TERMS = Sentences.TERMS;
    private static final int MIN = Sentences.MIN;
    private static final int MAX = Sentences.MAX;

    private final Sentences s;

    TextSentences(Sentences s) {
        this.s = s;
    }

    void all() {
        grammar();
        values();
        faults();
        uses();
        tape();
        laws();
    }

    private void due(String call, long got, long want) {
        s.due(call, got, want);
    }

    /** What a text of GRIP gives with i, d, w. */
    private void gives(String signs, int want, int... names) {
        PastTheRim x = new PastTheRim();
        int got = Sentences.text(x, 0, signs);
        int i = names.length > 0 ? names[0] : 0;
        int d = names.length > 1 ? names[1] : 0;
        int w = names.length > 2 ? names[2] : 0;
        due(signs + " with " + i + ", " + d + ", " + w, got == 1 ? x.law(0, i, d, w) : got, want);
    }

    private void faultAt(String signs, int place) {
        PastTheRim x = new PastTheRim();
        due("text(0) of " + signs, Sentences.text(x, 0, signs), -10 - place);
        due("without a TEXT still", x.untell(0), 0);
    }

    /** Sums of ones, so many bytes long. */
    private static String sum(int bytes) {
        StringBuilder sum = new StringBuilder(bytes % 2 == 0 ? "10" : "1");
        while (sum.length() < bytes) sum.append("+1");
        return sum.toString();
    }

    private void grammar() {
        s.tells(TERMS, "2. TEXTS are read from THE TAPE (bytes, at most 60):", () -> {
            gives(sum(60), 39);
            gives(sum(59), 30);
            gives("7", 7);
            PastTheRim x = new PastTheRim();
            Sentences.feed(x, sum(60));
            due("count(2)", x.count(2), 60);
            due("one more", x.feed('1', 1), Sentences.FULL);
            due("count(2)", x.count(2), 60);
        });
        s.tells(TERMS, "T: A { | A }.", () -> {
            gives("0|0", 0);
            gives("0|0|5", 1);
            gives("1|0&0", 1);
            gives("0&0|1", 1);
            faultAt("|1", 0);
            faultAt("1||1", 2);
        });
        s.tells(TERMS, "A: B { & B }.", () -> {
            gives("1&1&0", 0);
            gives("2&3&4", 1);
            gives("0&1<1", 0);
            gives("1<1&0", 0);
            gives("0<1&1", 1);
            faultAt("&1", 0);
            faultAt("1&&1", 2);
        });
        s.tells(TERMS, "B: S, or S < S, S = S, S > S.", () -> {
            gives("5", 5);
            gives("1+1<3", 1);
            gives("3>1+1", 1);
            gives("1+2=2+1", 1);
            faultAt("1<2<3", 3);
            faultAt("1=1=1", 3);
            faultAt("3>2>1", 3);
            faultAt("1<=2", 2);
            gives("(1<2)<3", 1);
            gives("3<(2<1)", 0);
            gives("1<2&2<3", 1);
            gives("2<1|2<3", 1);
        });
        s.tells(TERMS, "S: P { + P, - P }.", () -> {
            gives("9-4-3", 2);
            gives("9-4+3", 8);
            gives("1+2+3+4", 10);
            gives("2+3*4", 14);
            gives("20-3*4-1", 7);
            faultAt("-1", 0);
            faultAt("+1", 0);
            faultAt("1--1", 2);
        });
        s.tells(TERMS, "P: Q { * Q, / Q, % Q }.", () -> {
            gives("20/3*3", 18);
            gives("24/4/3", 2);
            gives("29%10%4", 1);
            gives("7*3%5", 1);
            gives("2*3*4", 24);
            faultAt("*1", 0);
            faultAt("1*-1", 2);
        });
        leaves();
    }

    private void leaves() {
        s.tells(TERMS, "Q: a NUMBER of 1 to 4 digits, a NAME, ! Q, ( T ).", () -> {
            gives("8", 8);
            gives("0", 0);
            gives("0012", 12);
            gives("9999-9990", 9);
            gives("1000/500", 2);
            faultAt("12345", 4);
            faultAt("00001", 4);
            gives("i", 4, 4, 5, 6);
            gives("i+d*w", 34, 4, 5, 6);
            gives("!i", 1, 0);
            gives("!0+5", 6);
            gives("!!7", 1);
            gives("(1|0)+5", 6);
            gives("!(1<0)", 1);
            gives("((3))", 3);
            faultAt("()", 1);
            faultAt("!", 1);
            faultAt("(1", 2);
            faultAt("1)", 1);
            faultAt("ii", 1);
            faultAt("1i", 1);
            faultAt("i1", 1);
            faultAt("1!", 1);
            faultAt("1(2)", 1);
            faultAt("(1)(2)", 3);
            faultAt("!*", 1);
        });
        s.tells(TERMS, "No blanks.", () -> {
            faultAt(" 1", 0);
            faultAt("1 ", 1);
            faultAt("1 +1", 1);
            faultAt("1+ 1", 2);
            faultAt("1\t", 1);
            faultAt("\n", 0);
        });
        s.tells(TERMS, "At most 5 of ! and ( are open at once.", () -> {
            gives("(((((7)))))", 7);
            gives("!!!!!7", 0);
            gives("!(!(!7))", 0);
            gives("(!(!(7)))", 1);
            gives("(((((7)))))+(((((8)))))", 15);
            gives("!!!!!0+!!!!!0+(!!!!5)", 3);
            gives("(!!!!5)*(((!(0))))", 1);
            faultAt("((((((7))))))", 5);
            faultAt("!!!!!!7", 5);
            faultAt("!(!(!(7)))", 5);
            faultAt("(!(!(!7)))", 5);
            faultAt("(((((!7)))))", 5);
            faultAt("1+((((((", 7);
            faultAt("(((((1)+(2)))))+((((((", 21);
        });
    }

    private void values() {
        s.tells(TERMS, "Ints that wrap;", () -> {
            gives("i+1<i", 1, MAX);
            gives("i-1>i", 1, MIN);
            gives("i*2=0-2", 1, MAX);
            gives("i*i=1", 1, MAX);
            gives("i/d=i", 1, MIN, -1);
            gives("i%d+5", 5, MIN, -1);
            gives("9999*9999*9999>0", 0);
            gives("256*256*256*256", 0);
        });
        s.tells(TERMS, "/ cut, % the rest that it leaves, both by 0 are 0;", () -> {
            gives("7/2", 3);
            gives("i/d+9", 6, -7, 2);
            gives("i/d+9", 6, 7, -2);
            gives("i/d", 3, -7, -2);
            gives("i%d", 1, 7, 2);
            gives("i%d+9", 8, -7, 2);
            gives("i%d+9", 10, 7, -2);
            gives("i%d+9", 8, -7, -2);
            gives("5/0+2", 2);
            gives("5%0+2", 2);
            gives("0/0+2", 2);
            gives("0%0+2", 2);
            gives("i/d+2", 2, MIN, 0);
            gives("i%d+2", 2, MAX, 0);
        });
        s.tells(TERMS, "| & < = > ! are 1 or 0, what is not 0 being true;", this::truths);
        s.tells(TERMS, "all is worked out.", () -> {
            gives("1|5/0", 1);
            gives("0&5%0", 0);
            gives("0|1/0", 0);
            gives("(0&1/0)+(1|1%0)*3", 3);
        });
    }

    private void truths() {
        String[] no = {"(0|0)+5", "(0&7)+5", "(3<2)+5", "(2=3)+5", "(2>3)+5", "!7+5"};
        String[] yes = {"(7|8)+5", "(7&8)+5", "(2<3)+5", "(3=3)+5", "(3>2)+5", "!0+5"};
        for (String signs : no) gives(signs, 5);
        for (String signs : yes) gives(signs, 6);
        gives("7|0", 1);
        gives("0|8", 1);
        gives("7|8", 1);
        gives("i|0", 1, -1);
        gives("i|0", 1, MIN);
        gives("7&8", 1);
        gives("4&3", 1);
        gives("7&0", 0);
        gives("0&7", 0);
        gives("i&d", 1, -1, -2);
        gives("1<2", 1);
        gives("2<2", 0);
        gives("3<2", 0);
        gives("i<d", 1, MIN, MAX);
        gives("1=2", 0);
        gives("2=2", 1);
        gives("1>2", 0);
        gives("2>2", 0);
        gives("3>2", 1);
        gives("i>d", 1, MAX, MIN);
        gives("!0", 1);
        gives("!9", 0);
        gives("!i", 0, -1);
        gives("!i", 0, MIN);
    }

    private void faults() {
        s.tells(TERMS, "FAULT: the place of the first byte with which no TEXT goes on;", () -> {
            faultAt("x", 0);
            faultAt(")", 0);
            faultAt("1x", 1);
            faultAt("1+x", 2);
            faultAt("1+)", 2);
            faultAt("(1+2;3)", 4);
            faultAt("(1<2<3)", 4);
            faultAt("I", 0);
            faultAt("1" + (char) 0, 1);
            faultAt("" + (char) 128, 0);
            faultAt("1" + (char) 255, 1);
            faultAt("1" + (char) ('+' + 128) + "1", 1);
            faultAt(":", 0);
            faultAt("/", 0);
            faultAt("h", 0);
            faultAt("1+n", 2);
            faultAt(sum(59) + "x", 59);
            faultAt("12+34+x+y", 6);
        });
        s.tells(TERMS, "how many there are, if it ends too early.", () -> {
            faultAt("", 0);
            faultAt("1+", 2);
            faultAt("1|", 2);
            faultAt("1&", 2);
            faultAt("1<", 2);
            faultAt("1*", 2);
            faultAt("(", 1);
            faultAt("(1+2", 4);
            faultAt("((1)", 4);
            faultAt("!", 1);
            faultAt("!!!!!", 5);
            faultAt("(((((", 5);
            faultAt(sum(59) + "+", 60);
            faultAt("(" + sum(59), 60);
        });
    }

    private void uses() {
        s.tells(TERMS, "USES: 0 GRIP: NAMES i ICE, d DEPTH, w WEIGHT; held within 0 .. 99;", () -> {
            PastTheRim x = Sentences.withPushers(65);
            x.car(0, 30);
            x.car(1, 17);
            x.car(2, 40);
            gripIs(x, "i", 17);
            gripIs(x, "d", 30);
            gripIs(x, "w", 5);
            gripIs(x, "0-1", 0);
            gripIs(x, "98+1", 99);
            gripIs(x, "98+2", 99);
            gripIs(x, "9999", 99);
            gripIs(x, "0", 0);
            faultAt("h", 0);
            faultAt("n", 0);
        });
        s.tells(TERMS, "without a TEXT 9 and WEIGHT, less ICE by 10 (cut; ints that wrap; held likewise).", this::gripWithout);
        s.tells(TERMS, "1 RUB: NAMES h HEIGHT, d DEPTH, n SWING; held within 0 .. 99;", () -> {
            PastTheRim x = Sentences.withPushers(65);
            x.car(0, 60);
            Sentences.swingsOn(x, 7);
            x.car(2, 40);
            rubIs(x, "h", 40);
            rubIs(x, "d", 60);
            rubIs(x, "n", 7);
            rubIs(x, "0-1", 0);
            rubIs(x, "98+1", 99);
            rubIs(x, "98+2", 99);
            rubIs(x, "0", 0);
            due("i is no NAME of RUB", Sentences.text(x, 1, "i"), -10);
            due("w is no NAME of RUB", Sentences.text(x, 1, "1+w"), -12);
        });
        s.tells(TERMS, "without a TEXT 2 and DEPTH by 10 (likewise).", this::rubWithout);
    }

    private void gripIs(PastTheRim x, String signs, int want) {
        due("text(0) of " + signs, Sentences.text(x, 0, signs), 1);
        due("GRIP by " + signs, x.now(0), want);
    }

    private void rubIs(PastTheRim x, String signs, int want) {
        due("text(1) of " + signs, Sentences.text(x, 1, signs), 1);
        due("RUB by " + signs, x.now(2), want);
    }

    private void without(int use, int a, int b, int c, int want) {
        due("law(" + use + ", " + a + ", " + b + ", " + c + ")", new PastTheRim().law(use, a, b, c), want);
    }

    private void gripWithout() {
        without(0, 0, 0, 0, 9);
        without(0, 9, 0, 0, 9);
        without(0, 10, 0, 0, 8);
        without(0, -9, 0, 0, 9);
        without(0, -10, 0, 0, 10);
        without(0, 0, 77, 4, 13);
        without(0, 89, 0, 0, 1);
        without(0, 90, 0, 0, 0);
        without(0, 100, 0, 0, 0);
        without(0, 0, 0, 89, 98);
        without(0, 0, 0, 90, 99);
        without(0, 0, 0, 91, 99);
        without(0, 0, 0, -9, 0);
        without(0, 0, 0, -10, 0);
        without(0, 0, 0, MAX, 0);
        without(0, 0, 0, MAX - 8, 0);
        without(0, 0, 0, MAX - 9, 99);
        without(0, MAX, 0, MIN, 99);
        without(0, MIN, 0, 0, 99);
        PastTheRim x = Sentences.withPushers(65, 64);
        x.car(1, 25);
        due("GRIP", x.now(0), 16);
    }

    private void rubWithout() {
        without(1, 0, 0, 0, 2);
        without(1, 0, 9, 0, 2);
        without(1, 0, 10, 0, 3);
        without(1, 0, -9, 0, 2);
        without(1, 0, -10, 0, 1);
        without(1, 0, -20, 0, 0);
        without(1, 0, -30, 0, 0);
        without(1, 0, MIN, 0, 0);
        without(1, 0, 969, 0, 98);
        without(1, 0, 970, 0, 99);
        without(1, 0, 980, 0, 99);
        without(1, 0, MAX, 0, 99);
        without(1, 99, 0, 99, 2);
        PastTheRim x = new PastTheRim();
        x.car(0, 59);
        due("RUB", x.now(2), 7);
        x.car(0, 60);
        due("RUB", x.now(2), 8);
    }

    private void tape() {
        s.tells(10, "The n lowest bytes (1 .. 8) of a word, the lowest first, come to THE TAPE: how many there are.", () -> {
            PastTheRim x = new PastTheRim();
            due("one of many", x.feed(0x4142434445464737L, 1), 1);
            due("two of many", x.feed(0x8000000039FF382BL, 2), 3);
            due("all eight", x.feed(0x312B312B312B332BL, 8), 11);
            due("text(0)", x.text(0), 1);
            due("7+8+3+1+1+1", x.law(0, 0, 0, 0), 21);
            x.feed(0xB13431L, 3);
            due("a byte has eight bits", x.text(0), -12);
        });
        s.tells(11, "THE TAPE, which is empty then, is the TEXT of a USE (0, 1), in place of one ahead: 1.", () -> {
            PastTheRim x = new PastTheRim();
            for (int use = 0; use < 2; use++) {
                due("first", Sentences.text(x, use, "12"), 1);
                due("count(2)", x.count(2), 0);
                due("law", x.law(use, 0, 0, 0), 12);
                due("in place of it", Sentences.text(x, use, "1" + use + "+7"), 1);
                due("law", x.law(use, 0, 0, 0), 17 + use);
                due("shorter in place of it", Sentences.text(x, use, "" + use), 1);
                due("law", x.law(use, 0, 0, 0), use);
            }
            due("the other USE's stays", x.law(0, 0, 0, 0), 0);
            due("THE TAPE is empty", x.text(0), -10);
        });
        s.tells(11, "-10 less the FAULT (no ERROR; the one ahead stays; THE TAPE is empty, too).", () -> {
            PastTheRim x = Sentences.withLaws("41", "42");
            for (int use = 0; use < 2; use++) {
                due("ends too early", Sentences.text(x, use, "1+"), -12);
                due("count(2)", x.count(2), 0);
                due("at the first byte", Sentences.text(x, use, ";"), -10);
                due("count(2)", x.count(2), 0);
                due("nothing", x.text(use), -10);
                due("at the last byte", Sentences.text(x, use, "12;"), -12);
                due("60 bytes", Sentences.text(x, use, sum(59) + "*"), -70);
                due("the one ahead stays", x.law(use, 0, 0, 0), 41 + use);
            }
            for (int k = 1; k < 7; k++) due("told(" + k + ")", x.told(k), 0);
        });
    }

    private void laws() {
        s.tells(12, "There is no TEXT of a USE any more: 1 if there was, else 0.", () -> {
            PastTheRim x = new PastTheRim();
            due("untell(0)", x.untell(0), 0);
            due("untell(1)", x.untell(1), 0);
            Sentences.text(x, 0, "41");
            Sentences.text(x, 1, "42");
            due("untell(1)", x.untell(1), 1);
            due("RUB without", x.law(1, 0, 50, 0), 7);
            due("GRIP has its TEXT", x.law(0, 0, 0, 0), 41);
            due("untell(1)", x.untell(1), 0);
            due("untell(0)", x.untell(0), 1);
            due("GRIP without", x.law(0, 50, 0, 0), 4);
            due("untell(0)", x.untell(0), 0);
            Sentences.text(x, 0, "!");
            due("no TEXT by a FAULT", x.untell(0), 0);
        });
        s.tells(13, "What a USE gives with its NAMES in order as a, b, c.", () -> {
            PastTheRim x = Sentences.withLaws("i*49+d*7+w", "h*49+d*7+n");
            for (int use = 0; use < 2; use++) {
                due("law(" + use + ", 1, 2, 3)", x.law(use, 1, 2, 3), 66);
                due("law(" + use + ", 0, 0, 0)", x.law(use, 0, 0, 0), 0);
                due("beyond what the car can have", x.law(use, -100, 707, 0), 49);
                due("held at 99", x.law(use, MAX, 0, 0), 99);
                due("held at 0", x.law(use, -1, 0, 0), 0);
            }
            PastTheRim sandy = new PastTheRim();
            sandy.car(4, 9);
            due("SAND doesn't count", sandy.law(0, 0, 0, 0), 9);
        });
    }
}
