/** The edges that the document names of what would be best: bar, order, home, turning, stopping, fewest, notes, slowness. */
final class BestEdges {
    private static final int NONE = Hand.NONE, BAD = Hand.BAD, LEAST = Hand.LEAST, MOST = Hand.MOST;

    private BestEdges() { }

    static void all() {
        bestBar();
        barsHeld();
        fewestKnocks();
        mostOut();
        firstRow();
        sendHome();
        othersKeepOrder();
        turned();
        whenToTurn();
        stop();
        fewest();
        judged();
        slow();
        bar();
        order();
        home();
        turn();
        when();
        stopped();
        fewestWanted();
        judge();
        slowed();
    }

    private static Hand alone(String gives) { return Hand.with(0, 0, 50).ruled(gives, "0", "1"); }

    /** Two men half a bar apart, who mend nothing; who is the one, who the other, their NUMBERS tell. */
    private static Hand pair(int one, int other, String gives) {
        return Hand.with(0, 0, 50 + one, 0, 60, 50 + other).ruled(gives, "0", "1");
    }

    private static Hand five(int... numbers) {
        Hand x = new Hand();
        for (int m = 0; m < 5; m++) x.call("man(0, " + 24 * m + ", 5" + numbers[m] + ")");
        return x;
    }

    private static Hand dry(Hand x) {
        for (int c = 0; c < 12; c++) x.call("set(1, " + c + ", 0)");
        return x;
    }

    private static Hand bare(Hand x) {
        for (int c = 0; c < 12; c++) x.call("set(0, " + c + ", 0)");
        return x;
    }

    private static void bestBar() {
        Sentences.sentence("BEST BAR: of 12 .. 240 the one by which, in 12 ROUNDS, OUT times 1000 by (12 times THE BAR) (cut) is most; of like ones the least.");
        new Hand().due("bar(0)", 12).due("bar(1)", 0);
        alone("1").due("bar(0)", 12).due("bar(1)", 83);
        alone("1000 * (gap = 11)").due("bar(0)", 12).due("bar(1)", 0);
        alone("1000 * (gap = 12)").due("bar(0)", 12).due("bar(1)", 83333);
        alone("1000 * (gap = 13)").due("bar(0)", 13).due("bar(1)", 76923);
        alone("1000 * (gap = 239)").due("bar(0)", 239).due("bar(1)", 4184);
        alone("1000 * (gap = 240)").due("bar(0)", 240).due("bar(1)", 4166);
        alone("1000 * (gap = 241)").due("bar(0)", 12).due("bar(1)", 0);
        alone("gap").due("bar(0)", 12).due("bar(1)", 1000);
        alone("(gap = 100) + (gap = 101) + (gap = 101) * (round = 0)").due("bar(0)", 100).due("bar(1)", 10);
        alone("(gap = 100) + (gap = 101) + (gap = 101) * (round < 2)").due("bar(0)", 101).due("bar(1)", 11);
        alone("1000 * (round = 11)").due("bar(1)", 6944).calls("round()").due("bar(1)", 6944);
        alone("1000 * (round = 12)").due("bar(1)", 0).calls("round()").due("bar(1)", 6944);
        Hand all = alone("1000");
        for (int c = 0; c < 12; c++) all.call("set(0, " + c + ", 9999)");
        all.due("bar(1)", 833250).calls("round()").due("count(3)", 9999).due("bar(1)", 11 * 9999 * 1000 / 144);
    }

    private static void barsHeld() {
        five(0, 0, 0, 0, 0).ruled("0", "0", "0").due("bar(0)", 12).due("bar(1)", 0).due("told(4, 3)", 96);
        Hand x = new Hand().calls("set(5, 0, 240)", "man(0, 100, 51)", "man(0, 0, 50)").ruled("1000 * (gap = 8) * (round = 0) * tired", "0", "1");
        x.due("bar(0)", 23).due("bar(1)", 3623).due("told(0, 3)", 100);
        Hand y = new Hand().calls("set(5, 0, 240)", "man(0, 200, 51)", "man(0, 0, 50)").ruled("1000 * (gap = 200) * (round = 0) * tired", "0", "1");
        y.due("bar(0)", 201).due("bar(1)", 414).due("told(0, 3)", 200).due("count(1)", 240);
    }

    private static void fewestKnocks() {
        Sentences.sentence("BEST ORDER: of all orders of MEN (rows of their numbers as they are now; in it they are numbered by their places) the one by which, in 12 ROUNDS, KNOCKS are fewest;");
        Hand more = Hand.with(0, 5, 59, 0, 0, 50).ruled("wet * tired * (round = 1)", "0", "1").calls("set(1, 2, 9)", "set(1, 3, 0)");
        more.due("run(12, 1)", 1).due("run(12, 0)", 81).due("order(-1)", 0).due("order(0)", 1).due("order(1)", 0);
        Hand unhurt = Hand.with(0, 5, 59, 0, 0, 50).ruled("wet * tired * (round = 1)", "0", "0").calls("set(1, 2, 9)", "set(1, 3, 0)");
        unhurt.due("run(12, 1)", 1).due("run(12, 2)", 0).due("run(12, 0)", 81).due("order(-1)", 0).due("order(0)", 1).due("order(1)", 0);
        Hand tenth = drifting(10).due("run(12, 1)", 1).due("order(-1)", 1).due("order(0)", 0).due("order(1)", 1);
        drifting(11).due("run(12, 1)", 1).due("order(-1)", 0).due("order(0)", 1).due("order(1)", 0);
        drifting(12).due("run(12, 1)", 0).due("order(-1)", 0).due("order(0)", 0).due("order(1)", 1);
        drifting(10).ruled("0", "58 * (round = 10) * (force = 50)", "0").due("run(12, 1)", 1).due("run(12, 2)", 0).due("order(-1)", 1).due("order(0)", 0);
        tenth.calls("round()").due("order(-1)", 1).due("order(0)", 0);
        new Hand().due("order(-1)", 0);
        Hand.with(5, 7, 11).due("order(-1)", 0).due("order(0)", 0);
    }

    /** Man 0 drifts to within 2 ahead of the other, who knocks in the same round behind him, in the next ahead of him. */
    private static Hand drifting(int round) {
        return Hand.with(0, 0, 50, 0, 60, 30).ruled("0", "58 * (round = " + round + ") * (force = 50)", "1");
    }

    /**
     * Five men of one BEAT, who are alike to one another: each order has the same KNOCKS, none of them in ROUND 1, and
     * the CELLS of ROUND 1 are wetter the less the place; so most comes OUT if NUMBERS fall from place to place.
     */
    private static Hand alike(int... numbers) {
        Hand x = new Hand().calls("set(5, 0, 240)");
        for (int n : numbers) x.call("man(0, 0, 5" + n + ")");
        for (int p = 0; p < 5; p++) x.call("set(1, " + (5 + p) + ", " + (4 - p) + ")");
        return x.ruled("wet * tired * (round = 1)", "0", "1");
    }

    private static void mostOut() {
        Sentences.sentence("of like ones most comes OUT;");
        everyRow(new int[5], 0);
        Hand.with(0, 0, 59, 1, 60, 59).ruled("force * (round = 0)", "0", "1").calls("set(0, 1, 0)")
            .due("order(0)", 1).due("order(1)", 0).calls("set(0, 1, 1000)", "set(0, 0, 0)").due("order(0)", 0);
        pair(9, 0, "wet * tired * (round = 11)").calls("set(1, 10, 0)", "set(1, 11, 9)").due("order(0)", 1).due("order(1)", 0);
        pair(9, 0, "wet * tired * (round = 12)").calls("set(1, 0, 0)", "set(1, 1, 9)").due("order(0)", 0).calls("round()").due("order(0)", 1);
    }

    /** The row is filled from a place on in all ways; by each, the men's NUMBERS make it the best one. */
    private static void everyRow(int[] row, int place) {
        if (place == 5) {
            int[] numbers = new int[5];
            for (int p = 0; p < 5; p++) numbers[row[p]] = 4 - p;
            Hand x = alike(numbers).dueFrom("order(%)", 0, row[0], row[1], row[2], row[3], row[4]);
            x.due("order(-1)", x.call("run(12, 1)"));
            return;
        }
        for (int m = 0; m < 5; m++) {
            boolean free = true;
            for (int p = 0; p < place; p++) free &= row[p] != m;
            if (!free) continue;
            row[place] = m;
            everyRow(row, place + 1);
        }
    }

    private static void firstRow() {
        Sentences.sentence("of like ones the first as a row.");
        alike(0, 0, 0, 0, 0).dueFrom("order(%)", 0, 0, 1, 2, 3, 4);
        alike(1, 3, 3, 3, 3).dueFrom("order(%)", 0, 1, 2, 3, 4, 0);
        alike(3, 1, 3, 1, 3).dueFrom("order(%)", 0, 0, 2, 4, 1, 3);
        alike(1, 1, 1, 1, 3).dueFrom("order(%)", 0, 4, 0, 1, 2, 3);
        Hand.with(0, 0, 50, 0, 60, 50).dueFrom("order(%)", 0, 0, 1);
    }

    private static void sendHome() {
        Sentences.sentence("SEND HOME: the MAN without whom (others keep their order, and are numbered anew) most comes OUT in 12 ROUNDS, if that is more than with all; of like ones the first; NONE.");
        String alone = "tired * (gap = 120) * (round = 0)";
        pair(0, 1, alone).due("run(12, 0)", 0).due("home()", 0);
        pair(1, 0, alone).due("home()", 1);
        pair(1, 1, alone).due("home()", 0);
        pair(1, 2, alone).due("home()", 0);
        pair(2, 1, alone).due("home()", 1);
        pair(0, 0, alone).due("home()", NONE);
        pair(0, 1, "tired * (round = 0)").due("run(12, 0)", 1).due("home()", NONE);
        pair(0, 1, "tired * (round = 0) * (1 + (gap = 120))").due("home()", 0);
        pair(1, 1, "gap = 120 and round = 11").due("home()", 0);
        pair(1, 1, "gap = 120 and round = 12").due("home()", NONE).calls("round()").due("home()", 0);
        five(1, 0, 0, 0, 0).ruled("tired * (gap = 48) * (round = 0)", "0", "1").due("home()", 4);
        five(0, 1, 0, 0, 0).ruled("tired * (gap = 48) * (round = 0)", "0", "1").due("home()", 0);
        // those ahead of him have mended by then: 0 + 3, 24 + 4, 48 + 5
        five(0, 0, 0, 0, 1).ruled("tired * (gap = 96 - 53) * (round = 0)", "0", "1").due("home()", 3);
    }

    private static void othersKeepOrder() {
        Hand.with(1, 0, 59, 0, 60, 69).ruled("force * (gap = 120) * (round = 0)", "0", "1").due("home()", 1).calls("set(4, 0, 1)").due("home()", 0);
        Hand x = Hand.with(0, 0, 55, 0, 40, 51, 0, 80, 59).ruled("wet * tired * (round = 0)", "0", "1").calls("set(1, 0, 0)", "set(1, 1, 1)", "set(1, 2, 0)");
        x.due("run(12, 0)", 1).due("home()", 0).calls("set(4, 1, 9)", "set(4, 2, 1)").due("run(12, 0)", 9).due("home()", NONE);
    }

    private static void turned() {
        Sentences.sentence("TURNED straw: CELL c has EARS of CELL 11 - c, and WET of all is 1 less (0 at least).");
        Hand x = new Hand();
        for (int c = 0; c < 12; c++) x.call("set(0, " + c + ", " + (c + 1) + ")");
        x.calls("set(1, 0, 0)", "set(1, 1, 1)", "set(1, 10, 9)", "set(1, 11, 3)").due("turn()", 0 + 0 + 8 + 1 + 1 + 1 + 1 + 1 + 1 + 1 + 1 + 2);
        x.dueFrom("told(%, 0)", 0, 12, 11, 10, 9, 8, 7, 6, 5, 4, 3, 2, 1);
        x.dueFrom("told(%, 1)", 0, 0, 0, 1, 1, 1, 1, 1, 1, 1, 1, 8, 2);
        x.due("turn()", 8).dueFrom("told(%, 0)", 0, 1, 2, 3, 4, 5, 6, 7, 8, 9, 10, 11, 12).dueFrom("told(%, 1)", 8, 0, 0, 7, 1);
    }

    private static void whenToTurn() {
        Sentences.sentence("WHEN to turn: of the next 12 ROUNDS the one (0 .. 11) ahead of which, if straw is TURNED just then, most comes OUT in all 12; of like ones the first; NONE, if it is no more than if it isn't TURNED.");
        for (int k = 1; k < 12; k++) {
            if (k == 6) continue;
            // 2 EARS are got out ahead of the turn, 1 is turned under the stroke behind it: too soon or too late loses one of them.
            String twice = "1000 * (round = " + (k - 1) + " or round = " + k + ")";
            Hand x = bare(alone(twice)).calls("set(0, " + (k - 1) + ", 2)", "set(0, " + (11 - k) + ", 1)");
            x.due("when()", k).calls("set(0, " + (11 - k) + ", 0)").due("when()", NONE);
        }
        bare(alone("1000 * (round = 0)")).calls("set(0, 11, 1)").due("when()", 0);
        bare(alone("1000 * (round = 5)")).calls("set(0, 6, 1)").due("when()", 0);
        bare(alone("1000 * (round = 11)")).calls("set(0, 0, 1)").due("when()", 0);
        bare(alone("1000 * (round = 12)")).calls("set(0, 11, 1)").due("when()", NONE).calls("round()").due("when()", 0);
        alone("5 - wet").due("when()", 0);
        dry(alone("5 - wet")).due("when()", NONE);
        alone("5 + wet").due("when()", NONE);
        new Hand().due("when()", NONE);
    }

    private static void stop() {
        Sentences.sentence("STOP: the first of the next 40 ROUNDS (from 0) in which less comes OUT than a told number; NONE.");
        alone("10 * (not round = 0)").due("stop(1)", 0).due("stop(0)", NONE).calls("round()").due("stop(1)", NONE);
        alone("10 * (not round = 39)").due("stop(1)", 39).calls("round()").due("stop(1)", 38);
        alone("10 * (not round = 40)").due("stop(1)", NONE).calls("round()").due("stop(1)", 39);
        alone("10").due("stop(0)", NONE).due("stop(9)", NONE).due("stop(10)", 12).due("stop(11)", 0);
        new Hand().due("stop(0)", NONE).due("stop(1)", 0);
    }

    private static void fewest() {
        Sentences.sentence("FEWEST: the least m (1 .. MEN) such that the first m MEN alone get a told number or more OUT in 12 ROUNDS; NONE.");
        Hand x = five(1, 1, 1, 1, 1).ruled("round = 11", "0", "1");
        x.dueFrom("fewest(%)", 0, 1, 1, 2, 3, 4, 5, NONE);
        five(1, 1, 1, 1, 1).ruled("round = 12", "0", "1").dueFrom("fewest(%)", 0, 1, NONE).calls("round()").dueFrom("fewest(%)", 0, 1, 1, 2);
        five(0, 0, 0, 0, 1).ruled("tired * (round = 0)", "0", "1").dueFrom("fewest(%)", 0, 1, 5, NONE);
        five(1, 0, 0, 0, 0).ruled("tired * (round = 0)", "0", "1").dueFrom("fewest(%)", 0, 1, 1, NONE);
        pair(1, 1, "gap = 120").dueFrom("fewest(%)", 11, 1, 1, NONE).due("run(12, 0)", 0);
        // cells 0 and 1 have 990 left by then, of which a stroke gets out 9
        Hand later = alone("10").calls("round()", "round()").due("count(3)", 20).due("fewest(118)", 1).due("fewest(119)", NONE).due("run(12, 0)", 118);
        later.calls("man(0, 60, 50)").due("fewest(119)", 2).due("fewest(226)", 2).due("fewest(227)", NONE).due("run(12, 0)", 226);
        new Hand().due("fewest(0)", NONE).due("fewest(1)", NONE);
        Hand all = alone("1000");
        for (int c = 0; c < 12; c++) all.call("set(0, " + c + ", 9999)");
        all.due("fewest(119988)", 1).due("fewest(119989)", NONE).due("fewest(999999)", NONE);
    }

    private static Hand noted(int sort, int n) {
        Hand x = Hand.with(0, 0, 53).calls("sheet(1, " + sort + ", " + n + ")");
        for (int k = 0; k < n; k++) x.call("cell(1, " + k + ", " + 3 * (k + 1) % 120 + ")");
        return x;
    }

    private static void judged() {
        Sentences.sentence("JUDGED: a SHEET tells the BEATS of a MAN as ROUNDS end: the first (from 0) that is otherwise; NONE.");
        for (int sort = 0; sort < 3; sort++) {
            noted(sort, 0).due("judge(0, 1)", NONE);
            noted(sort, 1).due("judge(0, 1)", NONE).calls("cell(1, 0, 0)").due("judge(0, 1)", 0).calls("cell(1, 0, 4)").due("judge(0, 1)", 0);
            Hand x = noted(sort, 40).due("judge(0, 1)", NONE).calls("cell(1, 39, 1)").due("judge(0, 1)", 39).calls("cell(1, 38, -1)").due("judge(0, 1)", 38);
            x.calls("cell(1, 0, 0)").due("judge(0, 1)", 0).calls("round()").due("judge(0, 1)", 0);
        }
        Hand late = noted(2, 2).calls("round()", "cell(1, 0, 6)", "cell(1, 1, 9)").due("judge(0, 1)", NONE);
        for (int sort = 0; sort < 3; sort++) {
            Hand wide = new Hand().calls("set(5, 0, 240)", "man(0, 199, 51)", "sheet(0, " + sort + ", 2)", "cell(0, 0, 200)", "cell(0, 1, 201)");
            wide.due("judge(0, 0)", sort == 0 ? 0 : NONE);
        }
        late.calls("cell(1, 0, 126)").due("judge(0, 1)", 0).calls("cell(1, 0, -114)").due("judge(0, 1)", 0);
    }

    private static void slow() {
        Sentences.sentence("SLOW, of a MAN: all EARS that are left behind 12 ROUNDS, were his FORCE 0, less those that are left as it is.");
        alone("force * (round = 11)").due("slow(0)", 50);
        alone("force * (round = 12)").due("slow(0)", 0).calls("round()").due("slow(0)", 50);
        alone("100 - force").due("slow(0)", -600);
        alone("force").calls("set(3, 0, 0)").due("slow(0)", 0);
        alone("1000 * (force < 1)").due("slow(0)", -12000);
        alone("1000 * (0 < force)").due("slow(0)", 12000);
        Hand.with(1, 0, 59).due("run(12, 0)", 12 * 89).due("slow(0)", 12 * 50).due("told(0, 4)", 5);
        Hand.with(4, 0, 59).due("slow(0)", 12 * 50);
        // of the 950 that cell 0 has left, 50 of a thousand are 47
        alone("force").calls("round()").due("count(3)", 50).due("slow(0)", 11 * 50 + 47);
        pair(0, 0, "force * (round = 0)").calls("set(3, 0, 9)", "set(3, 1, 1)").due("slow(0)", 90).due("slow(1)", 10);
    }

    private static void bar() {
        Sentences.promise(13, "BEST BAR (what 0), OUT times 1000 by time then (1). BAD.");
        FloorEdges.busy().refusedFor("bar(%)", BAD, LEAST, -1, 2, MOST);
        alone("1").asked("bar(0)", 12).asked("bar(1)", 83).due("count(1)", 120);
    }

    private static void order() {
        Sentences.promise(14, "BEST ORDER: the number at a place (0 .. MEN - 1); KNOCKS then (place NONE). BAD.");
        FloorEdges.busy().refusedFor("order(%)", BAD, LEAST, -2, 3, MOST);
        five(0, 0, 0, 0, 0).refusedFor("order(%)", BAD, -2, 5).asked("order(-1)", 0).asked("order(0)", 0).asked("order(4)", 4);
        new Hand().refusedFor("order(%)", BAD, -2, 0, 1).asked("order(-1)", 0);
        alone("1").refusedFor("order(%)", BAD, -2, 1).asked("order(0)", 0);
    }

    private static void home() {
        Sentences.promise(15, "SEND HOME. NONE.");
        new Hand().asked("home()", NONE);
        alone("1").asked("home()", NONE);
        alone("0").asked("home()", NONE);
        pair(0, 0, "gap = 120").asked("home()", 0).due("count(0)", 2);
    }

    private static void turn() {
        Sentences.promise(16, "Straw is truly TURNED: all WET together then.");
        new Hand().due("turn()", 12).due("turn()", 0).due("turn()", 0).due("told(0, 1)", 0);
        Hand wet = new Hand();
        for (int c = 0; c < 12; c++) wet.call("set(1, " + c + ", 9)");
        wet.due("turn()", 96).calls("set(0, 0, 0)").due("turn()", 84).due("told(11, 0)", 0).due("told(0, 0)", 1000).due("count(2)", 0);
    }

    private static void when() {
        Sentences.promise(17, "WHEN to turn. NONE.");
        alone("5 - wet").asked("when()", 0).due("told(0, 1)", 2);
        alone("5").asked("when()", NONE);
        new Hand().asked("when()", NONE);
    }

    private static void stopped() {
        Sentences.promise(18, "STOP (less 0 .. 99999). BAD; NONE.");
        FloorEdges.busy().refusedFor("stop(%)", BAD, LEAST, -1, 100000, MOST);
        alone("1000").asked("stop(0)", NONE).asked("stop(99999)", 0).asked("stop(1000)", 12).asked("stop(1)", 12).asked("stop(1001)", 0);
    }

    private static void fewestWanted() {
        Sentences.promise(19, "FEWEST (want 0 .. 999999). BAD; NONE.");
        FloorEdges.busy().refusedFor("fewest(%)", BAD, LEAST, -1, 1000000, MOST);
        alone("1").asked("fewest(0)", 1).asked("fewest(12)", 1).asked("fewest(13)", NONE).asked("fewest(999999)", NONE);
    }

    private static void judge() {
        Sentences.promise(20, "JUDGED. BAD: MAN, SHEET; -11; NONE.");
        Hand x = FloorEdges.busy();
        x.refusedFor("judge(%, 0)", BAD, LEAST, -1, 3, MOST).refusedFor("judge(0, %)", BAD, LEAST, -1, 4, MOST);
        x.refused("judge(3, 3)", BAD).refused("judge(-1, 3)", BAD).refusedFor("judge(%, 3)", Hand.NOTHING, 0, 2).asked("judge(0, 2)", NONE);
        new Hand().refused("judge(0, 0)", BAD).calls("sheet(0, 0, 0)").refused("judge(0, 0)", BAD).calls("man(0, 0, 0)").due("judge(0, 0)", NONE);
        noted(1, 40).asked("judge(0, 1)", NONE);
    }

    private static void slowed() {
        Sentences.promise(21, "SLOW. -100000: none such.");
        FloorEdges.busy().refusedFor("slow(%)", Hand.NONE_SUCH, LEAST, -1, 3, MOST);
        new Hand().refused("slow(0)", Hand.NONE_SUCH);
        alone("force").asked("slow(0)", 600).due("told(0, 4)", 5);
        five(0, 0, 0, 0, 0).refusedFor("slow(%)", Hand.NONE_SUCH, -1, 5).asked("slow(4)", five(0, 0, 0, 0, 0).call("slow(4)"));
    }
}
