/** The edges that the document names of the tape, of texts and their faults, and of what a text tells. */
final class TextEdges {
    private static final int BAD = Hand.BAD, FULL = Hand.FULL, LEAST = Hand.LEAST, MOST = Hand.MOST;
    private static final String SHORT = "gives 1;drifts 1;hurts 1;";

    private TextEdges() { }

    static void all() {
        tape();
        tokens();
        blanks();
        shape();
        expressions();
        ints();
        tooEarly();
        noTokens();
        tooMuchOpen();
        closedAgain();
        sixTexts();
        names();
        ofHisCell();
        gives();
        drifts();
        hurts();
        textZero();
        feed();
        text();
        force();
    }

    private static void good(String s) { Sentences.due("'" + s + "'", new Hand().reads(s), 1); }

    /** A ^ marks the place of the fault, and is left out. */
    private static void fault(String marked) {
        int place = marked.indexOf('^');
        String s = marked.substring(0, place) + marked.substring(place + 1);
        Hand x = new Hand();
        Sentences.due("'" + s + "'", x.reads(s), -100 - place);
        x.due("count(4)", 1).due("count(5)", 0).due("force(1)", BAD);
    }

    /** The same E in each of the three places of a text. */
    private static void goodE(String e) {
        good("gives " + e + ";drifts 1;hurts 1;");
        good("gives 1;drifts " + e + ";hurts 1;");
        good("gives 1;drifts 1;hurts " + e + ";");
    }

    private static void faultE(String marked) {
        fault("gives " + marked + ";drifts 1;hurts 1;");
        fault("gives 1;drifts " + marked + ";hurts 1;");
        fault("gives 1;drifts 1;hurts " + marked + ";");
    }

    /** What an E tells, from -99 to 99: a MAN alone, whom nothing else moves, drifts by it from BEAT 100 of 240. */
    private static void tells(String e, int want) {
        Hand x = new Hand().calls("set(5, 0, 240)", "man(0, 100, 53)").ruled("1", e, "1");
        x.due("beat(0, 1)", 100 + want);
    }

    private static String padded(String s, int size) {
        StringBuilder b = new StringBuilder(s);
        while (b.length() < size) b.append(' ');
        return b.toString();
    }

    private static void tape() {
        Sentences.sentence("A TEXT is read from THE TAPE (160 bytes at most).");
        good(padded(SHORT, 159));
        good(padded(SHORT, 160));
        good(padded("gives 1;drifts 1;hurts 1", 159) + ";");
        Hand x = new Hand().feeds(padded(SHORT, 160));
        x.due("count(5)", 160).due("feed(120)", FULL).due("count(5)", 160).due("text()", 1).due("count(5)", 0).due("feed(120)", 1);
    }

    private static void tokens() {
        Sentences.sentence("TOKENS, each as long as can be: WORDS (a .. z), NUMBERS (as many digits as stand there, 4 at most), SIGNS ( ) ; + - * < = ;");
        goodE("0");
        goodE("9999");
        goodE("0000");
        goodE("1or 2and not 3+(4)-5*6<7");
        faultE("^10000");
        faultE("^00000");
        faultE("1 + ^123456789012");
        faultE("1 ^2");
        faultE("12 ^3456");
        faultE("^notwet");
        faultE("^wetgap");
        faultE("1 ^orwet");
        faultE("wet^1");
        faultE("1^wet");
        faultE("^`wet");
        faultE("wet^{");
        faultE("^@");
        faultE("^Wet");
        faultE("^/1");
        faultE("1^:");
        fault("^givesx 1;drifts 1;hurts 1;");
        fault("^a");
        fault("^z");
        good("gives1;drifts2;hurts3;");
    }

    private static void blanks() {
        Sentences.sentence("blanks (32, 10) may stand between.");
        good("\n gives\n1 ;drifts 1\n; \n hurts\n\n1;\n ");
        good(" \n" + SHORT);
        for (char c : new char[] {0, 9, 11, 12, 13, 31, 33, 127, 160, 255}) {
            fault("gives^" + c + "1;drifts 1;hurts 1;");
            fault("^" + c + SHORT);
            fault(SHORT + "^" + c);
        }
        fault("^giv es 1;drifts 1;hurts 1;");
        fault("gives 1 ^0;drifts 1;hurts 1;");
    }

    private static void shape() {
        Sentences.sentence("TEXT: gives E ; drifts E ; hurts E ;");
        good(SHORT);
        fault("^drifts 1;gives 1;hurts 1;");
        fault("gives 1;^hurts 1;drifts 1;");
        fault("gives 1;drifts 1;^gives 1;");
        fault("gives 1;drifts 1;hurts 1;^;");
        for (String more : new String[] {"gives 1;", ";", ")", "5", "10000", "wet", "x", "or 1", "+ 1", "$"}) fault(SHORT + "^" + more);
        fault("gives ^;drifts 1;hurts 1;");
        fault("gives 1 ^drifts 1;hurts 1;");
        fault("^;");
        fault("^1;");
    }

    private static void expressions() {
        Sentences.sentence("E: AND { or AND }.");
        goodE("1");
        goodE("1 or 2 or 3");
        faultE("^or 1");
        faultE("1 or ^");
        faultE("1 or ^or 1");
        Sentences.sentence("AND: NOT { and NOT }.");
        goodE("1 and not 2 and 3");
        faultE("^and 1");
        faultE("1 and ^");
        tells("1 or 1 and 0", 1);
        tells("(1 or 1) and 0", 0);
        Sentences.sentence("NOT: not NOT, or SUM, perhaps < or = and a SUM (of a SUM alone, once).");
        goodE("not not 1 < 2");
        goodE("1 < 2");
        goodE("1 = 2");
        goodE("(1 < 2) < 3");
        faultE("1 < 2 ^< 3");
        faultE("1 < 2 ^= 3");
        faultE("1 = 2 ^= 3");
        faultE("not 1 = 2 ^< 3");
        faultE("1 < ^not 2");
        faultE("1 + ^not 2");
        faultE("not ^");
        faultE("1 < ^");
        faultE("^= 1");
        tells("7", 7);
        tells("not 1 < 2", 0);
        tells("(not 1) < 2", 1);
        Sentences.sentence("SUM: TERM { + or - TERM }. TERM: ONE { * ONE }.");
        goodE("1 + 2 - 3 * 4 * 5");
        faultE("^+ 1");
        faultE("1 + ^");
        faultE("1 - ^");
        faultE("^* 1");
        faultE("1 * ^");
        faultE("1 + ^+ 1");
        tells("9 - 3 - 2", 4);
        tells("2 + 3 * 4", 14);
        Sentences.sentence("ONE: a NUMBER, a NAME, - ONE, ( E ).");
        goodE("- - (wet)");
        faultE("^)");
        faultE("(^)");
        faultE("(1^");
        faultE("(1 ^2)");
        faultE("(1) ^)");
        faultE("(1) ^(2)");
        faultE("- ^");
        tells("2 * -3 + 1", -5);
        Sentences.sentence("NAMES are force wet gap ears round tired; gives, drifts, hurts, or, and, not are KEYS.");
        goodE("force + wet + gap + ears + round + tired");
        faultE("^gives");
        faultE("^drifts");
        faultE("1 + ^hurts");
        fault("^force 1;drifts 1;hurts 1;");
    }

    private static void ints() {
        Sentences.sentence("An E is an int (32 bits, wrapping): of or, and, not, <, = 1 or 0 (what is not 0 is true).");
        String over = "2048*1024*1024";
        tells("0<" + over + "-1", 1);
        tells(over + "<0", 1);
        tells(over + "<1", 1);
        tells("1<" + over, 0);
        tells(over + "-1<-1", 0);
        tells("-1<" + over + "-1", 1);
        tells("-(" + over + ")<0", 1);
        tells("0<-(" + over + ")-1", 1);
        tells(over + "-1+1=" + over, 1);
        tells("4096*1024*1024", 0);
        tells("4096*1024*1024+5", 5);
        for (String e : new String[] {"0 or 0", "1 and 0", "0 and 1", "not 1", "not -1", "not 7", "4 < 4", "5 < 4", "4 = 5", "not(" + over + ")"}) tells(e, 0);
        for (String e : new String[] {"7 or 0", "0 or 7", "-1 or 0", "7 and -7", "not 0", "3 < 4", "-1 < 0", "4 = 4", "1 and " + over, "not not 7"}) tells(e, 1);
    }

    private static void tooEarly() {
        Sentences.sentence("(the text's size, blanks at its end with it, if it ends too early),");
        fault("^");
        fault(" ^");
        fault("\n \n^");
        fault(padded("", 160) + "^");
        fault("gives^");
        fault("gives ^");
        fault("gives 1^");
        fault("gives 1 \n^");
        fault("gives 1;^");
        fault("gives (((1 + ^");
        fault("gives 1;drifts 1;hurts 1^");
        fault("gives 1;drifts 1;hurts 1 \n^");
        fault(padded("gives 1;drifts 1;hurts 1", 160) + "^");
        fault(padded("gives 1;drifts 1;hurts 1", 159) + "^)");
        fault(padded("gives", 159) + "7^");
        fault(padded("gives", 156) + "9999^");
        fault(padded("gives 1;drifts 1;hurts", 159) + "7^");
        fault(padded("gives", 157) + "wet^");
        fault(padded("gives", 159) + "-^");
        // what a longer tape had there before is no part of this one
        Hand again = new Hand().feeds("gives 99999;").due("text()", -106).feeds("gives 9").due("text()", -107);
        again.feeds("gives wetwet").due("text()", -106).feeds("gives wet").due("text()", -109);
        again.feeds("gives 1     ").due("text()", -112).feeds("gives 1").due("text()", -107);
        again.feeds(SHORT + SHORT).due("text()", -125).feeds(SHORT).due("text()", 1);
    }

    private static void noTokens() {
        Sentences.sentence("FAULT: the place of the first byte of the first TOKEN that can't stand there");
        fault("gives 1 ^) x 12345;");
        fault("gives 1; ^12 $");
        fault("gives 1;drifts 1;hurts 1; ^hurts $");
        Sentences.sentence("also of a byte that begins none, a WORD that is neither KEY nor NAME, a NUMBER that is too long,");
        for (int b = 0; b < 256; b++) {
            boolean begins = b == 32 || b == 10 || b >= 'a' && b <= 'z' || b >= '0' && b <= '9' || "();+-*<=".indexOf(b) >= 0;
            if (!begins) {
                fault("gives 1 ^" + (char) b + ";");
                fault("gives ^" + (char) b + " )");
                fault("^" + (char) b);
            }
        }
        noWord("a");
        noWord("z");
        for (String w : new String[] {"force", "wet", "gap", "ears", "round", "tired", "gives", "drifts", "hurts", "or", "and", "not"}) almost(w);
        faultE("^10000");
        faultE("1 ^10000");
        fault("^10000");
    }

    private static void noWord(String w) {
        faultE("^" + w);
        faultE("1 ^" + w);
        fault("^" + w);
    }

    /** A letter more, a letter less, one letter otherwise. */
    private static void almost(String word) {
        for (String w : new String[] {"a" + word, "z" + word, word + "a", word + "z", word + word, word.substring(1), word.substring(0, word.length() - 1)}) noWord(w);
        for (int k = 0; k < word.length(); k++) {
            char other = word.charAt(k) == 'x' ? 'y' : 'x';
            noWord(word.substring(0, k) + other + word.substring(k + 1));
        }
    }

    private static void tooMuchOpen() {
        Sentences.sentence("a ( , a not, a - of - ONE while 5 of these are open");
        goodE("((((1))))");
        goodE("(((((1)))))");
        faultE("(((((^(1))))))");
        goodE("not not not not 1");
        goodE("not not not not not 1");
        faultE("not not not not not ^not 1");
        goodE("- - - - 1");
        goodE("- - - - - 1");
        faultE("- - - - - ^- 1");
        goodE("not not (-(1))");
        faultE("not not (-(^-1))");
        faultE("not not (-(^(1)))");
        faultE("not not (-(^not 1))");
        faultE("-----^(1)");
        faultE("not not not not not ^(1)");
        faultE("not not not not not ^-1");
        faultE("(((((^-1)))))");
        faultE("(((((^not 1)))))");
        faultE("((((-^(1)))))");
        goodE("(((((1 - 1 - 1)))))");
        faultE("(((((1 - ^- 1)))))");
    }

    private static void closedAgain() {
        Sentences.sentence("(a ( till its ) , not and - till what they belong to ends).");
        goodE("(((((1))))) + (((((2)))))");
        goodE("(((((1)+(2)))))");
        faultE("(((((1)+(2+^(3))))))");
        goodE("((((-1*-2+-3))))");
        faultE("((((-1*-^-2))))");
        goodE("-----1*-----2 + -----3");
        goodE("-----1 or not not not not not 1");
        goodE("not not not not not 1 and not not not not not 2 or (((((3)))))");
        goodE("not not not not not 1 or -1");
        faultE("not not not not not 1 + ^-1");
        faultE("not not not not not 1 < ^-1");
        faultE("not not not not not 1 = ^(1)");
        faultE("not not not not not 1 * ^(1)");
        goodE("not not not not -1 * -1 + -1 < -1");
        faultE("not not not not -1 * -1 + -1 < -^-1");
        goodE("not (not (not 1) and not 2)");
        faultE("not (not (not ^(1)))");
    }

    private static void sixTexts() {
        Sentences.sentence("There are 6 TEXTS at most, TEXT 0 with them.");
        Hand x = new Hand().due("count(4)", 1).due("force(0)", 0);
        for (int t = 1; t < 6; t++) {
            Sentences.due("TEXT " + t, x.feeds("gives " + t + ";drifts 1;hurts 1;").call("text()"), t);
            x.due("count(4)", t + 1);
        }
        x.feeds(SHORT).due("text()", FULL).due("count(4)", 6).due("force(5)", 0).due("force(6)", BAD);
        x.calls("man(0, 0, 50)").due("run(1, 0)", 5).due("force(1)", 5).due("run(1, 0)", 1);
        for (int t = 1; t < 6; t++) x.due("force(" + t + ")", t == 1 ? 1 : t - 1).due("run(1, 0)", t).due("once(5, 1)", t);
        x.due("force(0)", 5).due("run(1, 0)", 44);
    }

    private static void names() {
        Sentences.sentence("force: STRIKES; wet: WET; gap: his GAP; ears: EARS; round: THE ROUND; tired: his NUMBER.");
        Hand x = new Hand().calls("man(2, 7, 19)", "set(1, 0, 9)", "set(1, 1, 0)");
        x.ruled("force", "0", "1").due("run(1, 0)", 10).due("run(12, 0)", 10 + 9 + 8 + 7 + 6 + 5 + 4 + 3 + 2 + 1);
        x.ruled("wet", "0", "1").due("run(1, 0)", 9).due("run(2, 0)", 9).due("run(3, 0)", 11);
        x.ruled("round", "0", "1").due("run(1, 0)", 0).due("run(2, 0)", 1).due("run(3, 0)", 3);
        x.ruled("tired", "0", "1").due("run(1, 0)", 9);
        Hand y = new Hand().calls("man(0, 7, 10)", "set(0, 0, 9999)", "set(0, 1, 0)");
        y.ruled("gap", "0", "1").due("run(1, 0)", 120 * 9999 / 1000).calls("set(5, 0, 12)").due("run(1, 0)", 12 * 9999 / 1000);
        y.ruled("1", "ears - 9989", "1").calls("set(5, 0, 240)", "set(2, 0, 100)").due("beat(0, 1)", 110).due("beat(0, 2)", 110 - 99);
    }

    /** A stroke that is a KNOCK falls on no CELL: the one on which it would have fallen stands for it. */
    private static void ofHisCell() {
        Sentences.sentence("Of a MAN, and the CELL on which his stroke falls:");
        Hand x = Hand.with(0, 100, 50).calls("set(1, 0, 5)", "set(1, 1, 9)", "set(1, 11, 0)").ruled("wet", "wet", "1");
        x.due("run(1, 0)", 5).due("run(2, 0)", 14).due("beat(0, 1)", 105).due("beat(0, 2)", 114).due("beat(0, 11)", 12).due("beat(0, 12)", 12);
        Hand close = new Hand().calls("set(5, 0, 12)", "man(0, 0, 50)", "man(0, 6, 50)", "set(1, 0, 5)", "set(1, 1, 9)", "set(1, 11, 0)");
        close.ruled("1", "0", "wet = 9").due("run(1, 1)", 2).due("run(1, 2)", 2).due("run(6, 2)", 2);
        close.ruled("1", "wet - 5", "wet = 5").due("run(1, 2)", 1).due("beat(0, 1)", 0).due("beat(1, 1)", 10);
    }

    private static void gives() {
        Sentences.sentence("gives: how many of a thousand EARS a stroke gets out (0 .. 1000, else the bound).");
        String[] told = {"-(2048*1024*1024-1)", "2048*1024*1024", "-1000", "-1", "0", "1", "999", "1000", "1001", "9999", "2048*1024*1024-1"};
        int[] out = {0, 0, 0, 0, 0, 1, 999, 1000, 1000, 1000, 1000};
        for (int k = 0; k < told.length; k++) {
            Hand x = Hand.with(0, 0, 50).ruled(told[k], "0", "0");
            x.due("run(1, 0)", out[k]).due("run(1, 3)", 12000 - out[k]).due("once(3, 1)", out[k]).due("once(3, 0)", 1000 - out[k]).due("round()", out[k]);
        }
    }

    private static void drifts() {
        Sentences.sentence("drifts: by how much his BEAT is later in a round (-99 .. 99, else the bound).");
        String[] told = {"2048*1024*1024", "-9999", "-100", "-99", "-98", "-1", "0", "1", "98", "99", "100", "9999", "2048*1024*1024-1"};
        int[] want = {-99, -99, -99, -99, -98, -1, 0, 1, 98, 99, 99, 99, 99};
        for (int k = 0; k < told.length; k++) tells(told[k], want[k]);
    }

    private static void hurts() {
        Sentences.sentence("hurts: whether he is hit, if he strikes on another's stroke (not 0).");
        String[] told = {"2048*1024*1024", "-1", "0", "1", "2", "256*256*256*256"};
        int[] hit = {1, 1, 0, 1, 1, 0};
        for (int k = 0; k < told.length; k++) {
            Hand.with(0, 7, 50, 0, 0, 50).ruled("1", "0", told[k]).due("run(1, 1)", 1).due("run(1, 2)", hit[k]);
            Hand.with(0, 8, 50, 0, 0, 50).ruled("1", "0", told[k]).due("run(1, 1)", 0).due("run(1, 2)", 0);
        }
    }

    private static void textZero() {
        Sentences.sentence("TEXT 0, at first THE RULE, is: gives force - wet * 3 ; drifts tired ; hurts 1 ;");
        Hand x = Hand.with(0, 0, 59).due("count(6)", 0);
        x.due("round()", 44).due("told(0, 3)", 9).calls("set(1, 1, 9)").due("round()", 23).due("told(0, 3)", 18);
        x.calls("set(3, 0, 1)", "set(1, 2, 3)").due("round()", 1).calls("set(1, 3, 4)").due("round()", 0);
        Hand.with(0, 7, 50, 0, 0, 50).due("run(1, 2)", 1);
    }

    private static void feed() {
        Sentences.promise(6, "A byte (0 .. 255) comes behind THE TAPE: how many it has. BAD; FULL.");
        FloorEdges.busy().refusedFor("feed(%)", BAD, LEAST, -1, 256, MOST).due("feed(0)", 6).due("feed(255)", 7);
        Hand x = new Hand();
        for (int k = 1; k <= 159; k++) x.call("feed(32)");
        x.due("feed(32)", 160).due("feed(32)", FULL).due("feed(0)", FULL).due("feed(256)", BAD).due("count(5)", 160);
        x.due("text()", -260).due("feed(32)", 1);
        Hand last = new Hand().feeds(padded("gives 1;drifts 1;hurts 1", 159) + ";");
        last.due("feed(59)", FULL).due("text()", 1);
    }

    private static void text() {
        Sentences.promise(7, "THE TAPE, which is empty then (by a FAULT, too), is a TEXT: its number; -100 less the place of its FAULT.");
        Hand x = new Hand();
        x.due("text()", -100).due("count(4)", 1);
        x.feeds("x").due("text()", -100).due("count(5)", 0);
        x.feeds("gives 1;drifts 1;hurts 1;x").due("text()", -125).due("count(5)", 0).due("count(4)", 1).due("force(1)", BAD);
        x.feeds(SHORT).due("text()", 1).due("count(5)", 0).due("text()", -100).due("count(4)", 2);
        StringBuilder ones = new StringBuilder("gives 1");
        while (ones.length() < 155) ones.append("+1");
        Hand often = Hand.with(0, 100, 50);
        for (int k = 0; k < 2; k++) Sentences.due("a long TEXT that ends too early", often.reads(ones.toString()), -100 - ones.length());
        often.ruled("7*(wet+gap)", "3+4*5", "1").due("run(1, 0)", 854).due("beat(0, 1)", 3);

        Sentences.promise(7, "FULL (ahead of all): no TEXT more has room (THE TAPE stays).");
        Hand full = new Hand();
        for (int t = 1; t < 6; t++) full.feeds(SHORT).due("text()", t);
        full.refused("text()", FULL).due("count(5)", 0);
        full.feeds("nonsense").refused("text()", FULL).due("count(5)", 8).due("feed(32)", 9);
    }

    private static void force() {
        Sentences.promise(8, "A TEXT is THE RULE: which was. BAD.");
        Hand x = FloorEdges.busy();
        x.refusedFor("force(%)", BAD, LEAST, -1, 2, MOST);
        x.due("force(0)", 1).due("count(6)", 0).due("force(1)", 0).due("force(1)", 1).due("count(6)", 1);
        new Hand().refusedFor("force(%)", BAD, -1, 1).due("force(0)", 0);
    }
}
