/** The edges that the document names of the floor, the men, the bar, their strokes and their ears. */
final class FloorEdges {
    private static final int BAD = Hand.BAD, LEAST = Hand.LEAST, MOST = Hand.MOST;

    private FloorEdges() { }

    /** Something of every kind stands here, so that whatever a refused call changed would be told. */
    static Hand busy() {
        Hand x = Hand.with(0, 0, 50, 3, 60, 42);
        x.ruled("7", "tired", "1");
        x.calls("round()", "image()", "round()", "man(5, 30, 21)", "set(0, 3, 77)", "set(1, 4, 9)");
        x.calls("sheet(0, 2, 6)", "cell(0, 0, 1)", "cell(0, 1, 9)", "cell(0, 2, 34)", "cell(0, 3, 2)", "cell(0, 4, 8)", "cell(0, 5, 12)");
        x.calls("sheet(1, 1, 3)", "cell(1, 0, 4)", "cell(1, 1, 99)", "cell(1, 2, 56)", "sheet(2, 0, 0)");
        return x.feeds("gives");
    }

    static void all() {
        use();
        constants();
        cells();
        men();
        kindsAndNumbers();
        bar();
        held();
        quotients();
        strikes();
        mends();
        newObject();
        man();
        set();
        told();
        mended();
        firstRefusal();
    }

    private static void use() {
        Sentences.sentence("An object is used for at most 512 calls after it has been made; what later calls answer is free.");
        Hand x = Hand.with(0, 0, 50);
        for (int k = 0; k < 510; k++) x.call("round()");
        x.due("count(2)", 510);
    }

    private static void constants() {
        Sentences.sentence("public static final int NONE = -1, BAD = -2, STATE = -3, FULL = -4;");
        Sentences.due("NONE", FourFlails.NONE, -1);
        Sentences.due("BAD", FourFlails.BAD, -2);
        Sentences.due("STATE", FourFlails.STATE, -3);
        Sentences.due("FULL", FourFlails.FULL, -4);
        Sentences.sentence("NONE is -1; NO, where a long is answered, -4611686018427387904.");
        Sentences.due("NO", FourFlails.NO, -(1L << 62));
    }

    private static void cells() {
        Sentences.sentence("THE FLOOR is a ring of CELLS 0 .. 11:");
        Hand x = busy();
        x.due("set(0, 11, 5)", 1000).due("told(11, 0)", 5).due("once(11, 0)", 5).due("told(0, 1)", 2);
        for (int c : new int[] {LEAST, -1, 12, MOST}) {
            x.refused("told(" + c + ", 0)", BAD).refused("told(" + c + ", 1)", BAD);
            x.refused("set(0, " + c + ", 0)", BAD).refused("set(1, " + c + ", 0)", BAD);
            x.refused("once(" + c + ", 0)", FourFlails.NO).refused("once(" + c + ", 1)", FourFlails.NO);
        }

        Sentences.sentence("EARS (0 .. 9999; 1000 at first), WET (0 .. 9; 2 at first).");
        Hand y = new Hand();
        for (int c = 0; c < 12; c++) y.due("told(" + c + ", 0)", 1000).due("told(" + c + ", 1)", 2);
        y.due("set(0, 5, 9999)", 1000).due("set(0, 5, 0)", 9999).due("told(5, 0)", 0).due("told(4, 0)", 1000).due("told(6, 0)", 1000);
        y.due("set(1, 5, 9)", 2).due("set(1, 5, 0)", 9).due("told(5, 1)", 0).due("told(4, 1)", 2).due("told(6, 1)", 2);
        y.refusedFor("set(0, 5, %)", BAD, LEAST, -1, 10000, MOST);
        y.refusedFor("set(1, 5, %)", BAD, LEAST, -1, 10, MOST);
    }

    private static void men() {
        Sentences.sentence("MEN (5 at most, numbered from 0;");
        Hand x = new Hand();
        for (int m = 0; m < 5; m++) x.due("count(0)", m).refused("told(" + m + ", 2)", BAD).due("man(0, " + 20 * m + ", 5" + m + ")", m);
        x.due("told(4, 5)", 4).due("count(0)", 5).refused("told(5, 2)", BAD).refused("man(0, 0, 50)", Hand.FULL).due("count(0)", 5);

        Sentences.sentence("each strikes behind the one of the number ahead, man 0 behind the last one)");
        Hand.with(0, 10, 50, 0, 30, 50).due("told(0, 7)", 100).due("told(1, 7)", 20);
        Hand.with(0, 10, 50, 0, 30, 50, 0, 70, 50).due("told(0, 7)", 60).due("told(1, 7)", 20).due("told(2, 7)", 40);
        Hand.with(0, 10, 50, 0, 30, 50, 0, 70, 50, 0, 71, 50, 0, 119, 50)
            .due("told(0, 7)", 11).due("told(3, 7)", 1).due("told(4, 7)", 48);
    }

    private static void kindsAndNumbers() {
        Sentences.sentence("have a KIND: 0 MAN, 1 STRONG under MAN, 2 TIRED under MAN, 3 LATE under TIRED, 4 KEEN under STRONG, 5 BOY under LATE;");
        for (int k = 0; k < 6; k++) new Hand().due("man(" + k + ", 0, 0)", 0).due("told(0, 2)", k);
        busy().refusedFor("man(%, 0, 0)", BAD, LEAST, -1, 6, MOST);

        Sentences.sentence("a BEAT (0 .. 239, in hundredths), FORCE (0 .. 9), a NUMBER (0 .. 9).");
        Hand x = new Hand().calls("set(5, 0, 240)");
        x.due("man(0, 0, 0)", 0).due("told(0, 3)", 0).due("told(0, 4)", 0).due("told(0, 5)", 0);
        x.due("man(0, 239, 99)", 1).due("told(1, 3)", 239).due("told(1, 4)", 9).due("told(1, 5)", 9);
        x.due("man(0, 1, 9)", 2).due("told(2, 4)", 0).due("told(2, 5)", 9);
        x.due("man(0, 1, 10)", 3).due("told(3, 4)", 1).due("told(3, 5)", 0);
        x.due("set(2, 0, 239)", 0).due("set(2, 0, 0)", 239).due("set(3, 0, 9)", 0).due("set(3, 0, 0)", 9).due("set(4, 0, 9)", 0).due("set(4, 0, 0)", 9);
        x.refusedFor("man(0, %, 0)", BAD, LEAST, -1, 240, MOST).refusedFor("man(0, 0, %)", BAD, LEAST, -1, 100, MOST);
        x.refusedFor("set(2, 0, %)", BAD, LEAST, -1, 240, MOST);
        x.refusedFor("set(3, 0, %)", BAD, LEAST, -1, 10, MOST).refusedFor("set(4, 0, %)", BAD, LEAST, -1, 10, MOST);
    }

    private static void bar() {
        Sentences.sentence("THE BAR (12 .. 240; 120 at first): so long a round takes;");
        Hand x = Hand.with(0, 100, 50);
        x.due("count(1)", 120).due("told(0, 7)", 120);
        x.due("set(5, 0, 240)", 120).due("told(0, 7)", 240).due("set(5, 0, 12)", 240).due("told(0, 7)", 12).due("count(1)", 12);
        x.refusedFor("set(5, 0, %)", BAD, LEAST, -12, 0, 11, 241, MOST);

        Sentences.sentence("THE ROUND (0 .. 999; 0 at first);");
        new Hand().due("count(2)", 0).calls("round()").due("count(2)", 1);

        Sentences.sentence("OUT (what came out so far; 0 at first).");
        Hand.with(0, 0, 50).due("count(3)", 0).calls("round()").due("count(3)", 44).calls("round()").due("count(3)", 88);
    }

    private static void held() {
        Sentences.sentence("A BEAT is held modulo THE BAR (0 .. THE BAR - 1).");
        Hand x = Hand.with(0, 119, 50, 0, 120, 50, 0, 121, 50, 0, 239, 50);
        x.dueFrom("told(%, 3)", 0, 119, 0, 1, 119);
        x.calls("set(2, 0, 120)").due("told(0, 3)", 0).calls("set(2, 0, 119)").due("told(0, 3)", 119).calls("set(2, 0, 121)").due("told(0, 3)", 1);
        x.calls("set(5, 0, 119)").due("told(3, 3)", 0).calls("set(5, 0, 240)").due("told(3, 3)", 0);
        Hand narrow = new Hand().calls("set(5, 0, 12)", "man(0, 11, 50)", "man(0, 12, 50)", "man(0, 23, 50)", "man(0, 24, 50)");
        narrow.dueFrom("told(%, 3)", 0, 11, 0, 11, 0);
    }

    private static void quotients() {
        Sentences.sentence("Quotients are cut toward 0.");
        Hand x = Hand.with(0, 0, 50);
        x.dueFrom("mends(0, %)", -3, -1, -1, 0, 0, 0, 1, 1);
        Hand.with(1, 0, 50).dueFrom("mends(0, %)", -8, -2, -1, -1, -1, -1, 0, 0, 0, 0, 0, 0, 0, 1);
        Hand.with(2, 0, 50).dueFrom("mends(0, %)", -7, -1, -1, 0, 0, 0, 0, 0, 0, 0, 0, 0, 0, 0, 1);
    }

    private static Hand inRound(int round, int... man) {
        Hand x = Hand.with(man);
        for (int k = 0; k < round; k++) x.call("round()");
        return x;
    }

    private static void strikes() {
        Sentences.sentence("MAN: 10 times FORCE;");
        Hand.with(0, 0, 9).due("told(0, 6)", 0);
        Hand.with(0, 0, 99).due("told(0, 6)", 90).calls("round()").due("told(0, 6)", 90);

        Sentences.sentence("STRONG: 5 times NUMBER more than a MAN;");
        Hand.with(1, 0, 0).due("told(0, 6)", 0);
        Hand.with(1, 0, 9).due("told(0, 6)", 45);
        Hand.with(1, 0, 99).due("told(0, 6)", 135).calls("round()").due("told(0, 6)", 135);

        Sentences.sentence("TIRED: r less than a MAN;");
        Hand.with(2, 0, 99).due("told(0, 6)", 90).calls("round()").due("told(0, 6)", 89);
        Sentences.sentence("LATE as a TIRED;");
        Hand.with(3, 0, 99).due("told(0, 6)", 90).calls("round()").due("told(0, 6)", 89);
        Sentences.sentence("KEEN as a STRONG;");
        Hand.with(4, 0, 99).due("told(0, 6)", 135).calls("round()").due("told(0, 6)", 135);
        Sentences.sentence("BOY: half (cut) of a LATE's.");
        Hand.with(5, 0, 99).due("told(0, 6)", 45).calls("round()").due("told(0, 6)", 44).calls("round()").due("told(0, 6)", 44)
            .calls("round()").due("told(0, 6)", 43);

        Sentences.sentence("(STRIKES: 0 at least, in the end; MENDS as it is.)");
        for (int kind = 2; kind < 4; kind++) {
            inRound(9, kind, 0, 10).due("told(0, 6)", 1).calls("round()").due("told(0, 6)", 0)
                .calls("round()").due("told(0, 6)", 0).calls("round()").due("told(0, 6)", 0);
            Hand.with(kind, 0, 0).due("told(0, 6)", 0).calls("round()").due("told(0, 6)", 0);
        }
        inRound(7, 5, 0, 10).due("told(0, 6)", 1).calls("round()").due("told(0, 6)", 1).calls("round()").due("told(0, 6)", 0)
            .calls("round()").due("told(0, 6)", 0).calls("round()").due("told(0, 6)", 0).calls("round()").due("told(0, 6)", 0);
        inRound(40, 5, 0, 10).due("told(0, 6)", 0);
        Hand.with(3, 0, 59).due("mends(0, 0)", -9).due("mends(0, -240)", -49);
    }

    private static void mends() {
        Sentences.sentence("MAN: half (cut) of it;");
        Hand.with(0, 0, 59).due("mends(0, 240)", 120).due("mends(0, 239)", 119).due("mends(0, -239)", -119).due("mends(0, -240)", -120);
        Sentences.sentence("STRONG: a MAN's by 2 (cut);");
        Hand.with(1, 0, 59).due("mends(0, 240)", 60).due("mends(0, 239)", 59).due("mends(0, -239)", -59).due("mends(0, -240)", -60);
        Sentences.sentence("TIRED: a MAN's by 3 (cut);");
        Hand.with(2, 0, 59).due("mends(0, 240)", 40).due("mends(0, 239)", 39).due("mends(0, -239)", -39).due("mends(0, -240)", -40);
        Sentences.sentence("LATE: a TIRED's less NUMBER;");
        Hand.with(3, 0, 59).due("mends(0, 240)", 31).due("mends(0, 239)", 30).due("mends(0, -239)", -48).due("mends(0, -240)", -49);
        Hand.with(3, 0, 50).due("mends(0, 5)", 0).due("mends(0, 6)", 1);
        Sentences.sentence("KEEN: e less a STRONG's;");
        Hand.with(4, 0, 59).due("mends(0, 240)", 180).due("mends(0, 239)", 180).due("mends(0, -239)", -180).due("mends(0, -240)", -180)
            .dueFrom("mends(0, %)", -4, -3, -3, -2, -1, 0, 1, 2, 3, 3);
        Sentences.sentence("BOY as a LATE.");
        Hand.with(5, 0, 59).due("mends(0, 240)", 31).due("mends(0, 0)", -9).due("mends(0, -240)", -49);
    }

    private static void newObject() {
        Sentences.promise(1, "Nobody; ROUND 0.");
        Hand x = new Hand();
        x.due("count(0)", 0).due("count(2)", 0).due("count(5)", 0).due("count(6)", 0);
        x.refused("told(0, 2)", BAD).refused("set(2, 0, 0)", BAD).refused("mends(0, 0)", Hand.NONE_SUCH).refused("beat(0, 0)", BAD);
        x.refused("order(0)", BAD).refused("judge(0, 0)", BAD).refused("slow(0)", Hand.NONE_SUCH).refused("back()", Hand.STATE);
        x.refused("force(1)", BAD).refused("taken(0, 0)", Hand.NOTHING);
        x.asked("run(40, 0)", 0).asked("run(40, 1)", 0).asked("run(40, 2)", 0).asked("run(40, 3)", 12000).asked("holds()", 40);
        x.asked("home()", Hand.NONE).asked("when()", Hand.NONE).asked("fewest(0)", Hand.NONE).asked("order(-1)", 0);
    }

    private static void man() {
        Sentences.promise(2, "A MAN (what: 10 times FORCE, and NUMBER): his number. BAD; FULL.");
        Hand x = busy();
        x.refusedFor("man(%, 0, 0)", BAD, -1, 6).refusedFor("man(0, %, 0)", BAD, -1, 240).refusedFor("man(0, 0, %)", BAD, -1, 100);
        x.due("man(0, 0, 0)", 3).due("man(5, 239, 99)", 4);
        x.refused("man(0, 0, 0)", Hand.FULL).refused("man(5, 239, 99)", Hand.FULL);
        x.due("count(0)", 5).due("told(4, 2)", 5);
    }

    private static void set() {
        Sentences.promise(3, "EARS (what 0), WET (1) of a CELL, BEAT (2), FORCE (3), NUMBER (4) of a MAN, THE BAR (5; of does not matter: BEATS are held by it) becomes v: what it was.");
        Hand y = Hand.with(0, 119, 50, 0, 60, 50);
        y.due("set(5, -1, 119)", 120).due("told(0, 3)", 0).due("told(1, 3)", 60).due("set(5, " + LEAST + ", 60)", 119).due("told(1, 3)", 0);
        y.due("set(5, " + MOST + ", 60)", 60).due("set(5, 2, 61)", 60);
        Hand five = Hand.with(0, 119, 50, 0, 110, 50, 0, 100, 50, 0, 99, 50, 0, 118, 50);
        five.due("set(5, 5, 100)", 120).dueFrom("told(%, 3)", 0, 19, 10, 0, 99, 18).due("set(5, 4, 12)", 100).dueFrom("told(%, 3)", 0, 7, 10, 0, 3, 6);

        Sentences.promise(3, "BAD (BEAT 0 .. 239).");
        Hand x = busy();
        x.refusedFor("set(%, 0, 12)", BAD, LEAST, -1, 6, MOST);
        for (int what = 2; what < 5; what++) x.refusedFor("set(" + what + ", %, 0)", BAD, LEAST, -1, 3, MOST);
        x.due("set(2, 2, 200)", 30).due("told(2, 3)", 80).due("set(2, 2, 239)", 80).due("set(2, 2, 0)", 119).due("told(2, 3)", 0);
        x.due("set(3, 2, 9)", 2).due("set(4, 2, 9)", 1).due("told(2, 4)", 9).due("told(2, 5)", 9);
        x.refusedFor("set(2, 2, %)", BAD, -1, 240);
    }

    private static void told() {
        Sentences.promise(4, "Of a CELL: 0 EARS, 1 WET; of a MAN: 2 KIND, 3 BEAT, 4 FORCE, 5 NUMBER, 6 STRIKES in THE ROUND, 7 his GAP now. BAD.");
        Hand x = busy();
        x.refusedFor("told(0, %)", BAD, LEAST, -1, 8, MOST).refusedFor("told(%, 0)", BAD, -1, 12).refusedFor("told(%, 1)", BAD, -1, 12);
        Hand y = busy();
        for (int what = 2; what < 8; what++) y.refusedFor("told(%, " + what + ")", BAD, LEAST, -1, 3, MOST);
        y.asked("told(11, 0)", 1000).asked("told(11, 1)", 2).asked("told(2, 2)", 5).asked("told(2, 3)", 30).asked("told(2, 4)", 2);
        y.asked("told(2, 5)", 1).asked("told(2, 6)", 9);
        Hand one = Hand.with(0, 7, 50).asked("told(0, 7)", 120);
        one.calls("man(0, 7, 50)").asked("told(0, 7)", 0).asked("told(1, 7)", 0).calls("set(2, 1, 8)").asked("told(0, 7)", 119).asked("told(1, 7)", 1);
    }

    private static void mended() {
        Sentences.promise(5, "MENDS of a MAN by an ERROR (-240 .. 240). -100000: none such.");
        Hand x = busy();
        x.asked("mends(0, 240)", 120).asked("mends(0, -240)", -120).asked("mends(2, 240)", 39);
        x.refusedFor("mends(0, %)", Hand.NONE_SUCH, LEAST, -241, 241, MOST).refusedFor("mends(%, 0)", Hand.NONE_SUCH, LEAST, -1, 3, MOST);
    }

    private static void firstRefusal() {
        Sentences.sentence("Refusals, the first that the call's words name; they change nothing:");
        Hand full = busy().calls("man(0, 0, 0)", "man(0, 0, 0)");
        full.refused("man(6, 0, 0)", BAD).refused("man(0, 240, 0)", BAD).refused("man(0, 0, 100)", BAD).refused("man(0, 0, 99)", Hand.FULL);
        Hand x = busy();
        x.refused("judge(3, 3)", BAD).refused("judge(0, 4)", BAD).refused("judge(0, 3)", Hand.NOTHING);
        x.refused("sheet(4, 0, -1)", BAD).refused("sheet(4, -1, 0)", BAD).refused("sheet(0, 3, -1)", BAD).refused("sheet(0, -2, -1)", BAD).refused("sheet(0, 0, -1)", Hand.BELOW);
        x.refused("cell(4, -1, 0)", BAD).refused("cell(3, -1, 0)", Hand.NOTHING).refused("cell(2, -1, 0)", Hand.OUTSIDE);
        x.refused("copy(3, 0, 4, 0, -1)", BAD).refused("copy(4, 0, 3, 0, -1)", BAD).refused("copy(3, -1, 0, 0, -1)", Hand.NOTHING)
            .refused("copy(0, 0, 3, -1, 1)", Hand.NOTHING).refused("copy(0, -1, 1, -1, -1)", Hand.OTHER).refused("copy(0, -1, 0, 0, 1)", Hand.OUTSIDE);
        Hand y = busy();
        y.refused("men(4, 1, 0, 1)", BAD).refused("men(3, 3, 0, 1)", BAD).refused("men(3, 0, 0, 6)", BAD).refused("men(0, 1, -1, 6)", BAD);
        y.refused("men(0, 1, -1, 1)", Hand.OTHER).refused("men(3, 0, -1, 1)", Hand.NOTHING).refused("men(0, 2, -1, 1)", Hand.OUTSIDE);
        y.refused("taken(3, 6)", BAD).refused("taken(3, 4)", Hand.NOTHING).refused("taken(0, 4)", Hand.OTHER);
        Hand tape = new Hand();
        for (int k = 0; k < 160; k++) tape.call("feed(32)");
        tape.due("feed(256)", BAD).due("feed(-1)", BAD).due("feed(255)", Hand.FULL).due("count(5)", 160);
    }
}
