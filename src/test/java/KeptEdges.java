/** The edges that the document names of rounds that are drawn, of all who strike one cell, of an image, and of counts. */
final class KeptEdges {
    private static final int BAD = Hand.BAD, STATE = Hand.STATE, LEAST = Hand.LEAST, MOST = Hand.MOST;

    private KeptEdges() { }

    static void all() {
        drawnFirst();
        drawnSecond();
        drawnOnTop();
        drawnOn();
        drawn();
        onceAllStrike();
        once();
        image();
        keeps();
        menGo();
        back();
        count();
    }

    private static final int[] SEEDS = {0, 1, 2, 3, 4, 5, 6, 7, -1, 12345, MOST, LEAST, 77};
    /** (z >>> 9) % 7 behind one step and behind two, worked out apart from the class. */
    private static final int[] FIRST = {3, 6, 2, 5, 4, 1, 4, 0, 3, 4, 1, 5, 6};
    private static final int[] SECOND = {4, 0, 3, 6, 0, 3, 6, 2, 4, 5, 6, 2, 1};

    /** Man 1 would have GAPS 5 .. 10 behind man 0; the more man 0 is drawn behind, the more of them are KNOCKS. */
    private static void drawnFirst() {
        Sentences.sentence("DRAWN by a SEED: in n ROUNDS z = z * 1103515245 + 12345 (an int; SEED at first) ahead of each MAN's turn: his drifts are (z >>> 9) % 7 - 3 more: how many KNOCKS.");
        int[] knocks = new int[SEEDS.length];
        for (int gap = 5; gap <= 10; gap++) {
            Hand x = Hand.with(0, 0, 51, 0, 60, 50).ruled("1", "tired * " + (60 - gap), "1");
            x.due("run(1, 1)", gap < 8 ? 1 : 0);
            for (int k = 0; k < SEEDS.length; k++) knocks[k] += (int) x.call("drawn(" + SEEDS[k] + ", 1)");
            x.due("run(1, 1)", gap < 8 ? 1 : 0);
        }
        for (int k = 0; k < SEEDS.length; k++) Sentences.due("all drawn(" + SEEDS[k] + ", 1)", knocks[k], FIRST[k]);
    }

    /** The same of man 2 behind man 1; a TIRED man mends nothing of so small an ERROR as man 0's draw makes. */
    private static void drawnSecond() {
        int[] knocks = new int[SEEDS.length];
        for (int gap = 5; gap <= 10; gap++) {
            Hand x = Hand.with(2, 0, 50, 2, 40, 51, 2, 80, 50).ruled("1", "tired * " + (40 - gap), "1");
            for (int k = 0; k < SEEDS.length; k++) knocks[k] += (int) x.call("drawn(" + SEEDS[k] + ", 1)");
        }
        for (int k = 0; k < SEEDS.length; k++) Sentences.due("all drawn(" + SEEDS[k] + ", 1) of the second", knocks[k], SECOND[k]);
    }

    /** The document bounds what the text tells; what is drawn is more than that. */
    private static void drawnOnTop() {
        int[] knocks = new int[SEEDS.length];
        for (int gap = 5; gap <= 10; gap++) {
            Hand x = new Hand().calls("set(5, 0, 216)", "man(2, 0, 51)", "man(2, 108, 50)").ruled("1", "tired * (100 + 9999)", "1");
            x.calls("set(2, 1, " + (99 + gap) + ")");
            for (int k = 0; k < SEEDS.length; k++) knocks[k] += (int) x.call("drawn(" + SEEDS[k] + ", 1)");
            x.due("run(1, 1)", gap < 8 ? 1 : 0);
        }
        for (int k = 0; k < SEEDS.length; k++) Sentences.due("all drawn(" + SEEDS[k] + ", 1) on the bound", knocks[k], FIRST[k]);
    }

    /** The same z goes on from round to round; a KNOCK by which nobody is HIT counts, too. Worked out apart from the class. */
    private static void drawnOn() {
        int[] rounds = {1, 2, 3, 12, 40};
        int[][] two = {{0, 1, 0, 0, 0, 0, 0, 0, 0, 0, 0, 0, 1}, {1, 2, 0, 1, 1, 1, 1, 1, 1, 1, 1, 0, 2}, {1, 3, 1, 1, 1, 1, 2, 3, 1, 2, 2, 1, 3},
            {4, 6, 6, 8, 4, 6, 9, 9, 4, 4, 11, 6, 9}, {22, 21, 24, 23, 20, 23, 29, 26, 21, 22, 24, 23, 25}};
        int[][] five = {{1, 1, 2, 3, 3, 2, 2, 1, 3, 1, 1, 3, 3}, {1, 1, 2, 4, 5, 3, 3, 1, 5, 1, 1, 5, 6}, {1, 1, 2, 4, 8, 3, 3, 1, 6, 1, 1, 6, 7},
            {1, 1, 2, 4, 24, 3, 3, 1, 6, 1, 1, 24, 7}, {1, 1, 2, 4, 27, 3, 3, 1, 6, 1, 1, 24, 7}};
        Hand x = new Hand().calls("set(5, 0, 18)", "man(0, 0, 50)", "man(0, 10, 50)").ruled("1", "0", "0");
        Hand y = new Hand().calls("set(5, 0, 40)", "man(0, 2, 50)", "man(0, 4, 50)", "man(0, 6, 50)", "man(0, 8, 50)", "man(0, 10, 50)").ruled("1", "0", "0");
        for (int n = 0; n < rounds.length; n++) {
            for (int k = 0; k < SEEDS.length; k++) {
                x.due("drawn(" + SEEDS[k] + ", " + rounds[n] + ")", two[n][k]);
                y.due("drawn(" + SEEDS[k] + ", " + rounds[n] + ")", five[n][k]);
            }
        }
    }

    private static void drawn() {
        Sentences.promise(22, "DRAWN (n 0 .. 40). BAD.");
        FloorEdges.busy().refusedFor("drawn(0, %)", BAD, LEAST, -1, 41, MOST);
        Hand x = new Hand().calls("set(5, 0, 12)", "man(0, 0, 50)", "man(0, 6, 50)").ruled("1", "0", "1");
        x.asked("drawn(0, 0)", 0).asked("drawn(7, 0)", 0);
        Hand crowd = new Hand().calls("set(5, 0, 12)", "man(0, 2, 50)", "man(0, 4, 50)", "man(0, 6, 50)", "man(0, 8, 50)", "man(0, 10, 50)");
        crowd.asked("drawn(7, 1)", crowd.again().call("drawn(7, 1)")).asked("drawn(" + LEAST + ", 40)", crowd.again().call("drawn(" + LEAST + ", 40)"));
        new Hand().asked("drawn(" + MOST + ", 40)", 0);
        for (int k = 0; k < SEEDS.length; k++) {
            Hand.with(0, 50, 53).due("drawn(" + SEEDS[k] + ", 40)", 0).due("round()", 44).due("told(0, 3)", 53).due("drawn(" + SEEDS[k] + ", 1)", 0).due("beat(0, 1)", 56);
        }
        Hand.with(0, 0, 50).asked("drawn(" + LEAST + ", 40)", 0);
    }

    private static void onceAllStrike() {
        Sentences.promise(23, "If all MEN struck one CELL now, one behind the other by numbers, each by his GAP as it is now (there are no KNOCKS): part 0 EARS that stay, 1 those that come out.");
        new Hand().due("once(0, 0)", 1000).due("once(0, 1)", 0).calls("set(0, 0, 0)").due("once(0, 0)", 0).due("once(0, 1)", 0);
        Hand halves = Hand.with(0, 9, 50, 0, 9, 50, 0, 9, 50, 0, 9, 50, 0, 9, 50).ruled("500", "99", "1");
        halves.due("once(0, 0)", 32).due("once(0, 1)", 968).calls("set(0, 0, 9999)").due("once(0, 0)", 313).due("once(0, 1)", 9686);
        halves.calls("set(0, 0, 1)").due("once(0, 0)", 1).due("once(0, 1)", 0).calls("set(0, 0, 0)").due("once(0, 0)", 0);
        Hand.with(0, 9, 50, 0, 9, 50).ruled("gap", "0", "1").due("once(0, 1)", 0);
        Hand.with(0, 9, 50, 0, 10, 50).ruled("gap", "99", "1").due("once(0, 1)", 119);
        Hand.with(0, 9, 51, 0, 60, 50).ruled("500 * tired + 10 * (1 - tired) * (ears < 1000)", "0", "1").due("once(2, 1)", 505).due("once(2, 0)", 495);
        Hand.with(0, 9, 50, 0, 60, 51).ruled("500 * tired + 10 * (1 - tired) * (ears < 1000)", "0", "1").due("once(2, 1)", 500).due("once(2, 0)", 500);
        for (int kind = 0; kind < 6; kind++) {
            Hand seen = Hand.with(kind, 9, 59).calls("round()", "round()", "round()", "set(1, 5, 7)");
            seen.ruled("round", "0", "1").due("once(5, 1)", 3).due("once(5, 0)", 997);
            seen.ruled("wet", "0", "1").due("once(5, 1)", 7).due("once(6, 1)", 2).ruled("tired", "0", "1").due("once(5, 1)", 9);
            seen.ruled("force", "0", "1").due("once(5, 1)", new int[] {50, 95, 47, 47, 95, 23}[kind]);
        }
        Hand.with(0, 9, 50).ruled("gap", "99", "1").due("once(0, 1)", 120).due("once(11, 0)", 880);
        Hand.with(0, 10, 50, 0, 50, 50).ruled("gap * 10", "99", "1").due("once(0, 1)", 880);
        Hand.with(0, 9, 50, 0, 9, 50).calls("set(0, 0, 900)").ruled("ears", "0", "1").due("once(0, 0)", 82).due("once(0, 1)", 818);
        Hand all = Hand.with(0, 9, 50, 0, 9, 50).ruled("1000", "0", "1").calls("set(0, 11, 9999)").due("once(11, 0)", 0).due("once(11, 1)", 9999);
        all.calls("round()").due("once(11, 1)", 9999);
    }

    private static void once() {
        Sentences.promise(23, "NO: CELL, part.");
        Hand x = FloorEdges.busy();
        x.refusedFor("once(%, 0)", FourFlails.NO, LEAST, -1, 12, MOST).refusedFor("once(0, %)", FourFlails.NO, LEAST, -1, 2, MOST);
        x.refused("once(-1, -1)", FourFlails.NO).asked("once(11, 0)", 981).asked("once(11, 1)", 19).asked("once(0, 0)", 975);
    }

    private static void image() {
        Sentences.promise(24, "AN IMAGE is kept: THE ROUND.");
        Hand x = Hand.with(0, 0, 50).due("image()", 0).calls("round()").due("image()", 1).calls("round()", "round()").due("back()", 1).due("count(3)", 44);
        x.calls("round()").due("image()", 2).calls("round()").due("back()", 2).due("back()", 2).due("count(3)", 88);
        new Hand().due("image()", 0).due("back()", 0);
    }

    private static void keeps() {
        Sentences.sentence("AN IMAGE keeps THE FLOOR, BEATS, FORCE, NUMBERS of MEN, THE BAR, THE ROUND, OUT, THE RULE");
        Hand x = Hand.with(0, 119, 59, 4, 60, 31).ruled("1", "1", "1").calls("round()", "image()");
        String[][] changes = {{"set(0, 0, 5)", "told(0, 0)", "999"}, {"set(0, 11, 0)", "told(11, 0)", "1000"}, {"set(1, 0, 9)", "told(0, 1)", "2"}, {"set(1, 11, 0)", "told(11, 1)", "2"},
            {"set(2, 0, 5)", "told(0, 3)", "0"}, {"set(3, 0, 1)", "told(0, 4)", "5"}, {"set(4, 1, 8)", "told(1, 5)", "1"}, {"set(5, 0, 12)", "count(1)", "120"},
            {"set(5, 0, 13)", "told(1, 3)", "62"}, {"round()", "count(2)", "1"}, {"round()", "count(3)", "2"}, {"force(0)", "count(6)", "1"}, {"turn()", "told(5, 1)", "2"}};
        long first = x.call("told(1, 3)");
        for (String[] c : changes) {
            long kept = c[1].equals("told(1, 3)") ? first : Long.parseLong(c[2]);
            x.due(c[1], kept).calls(c[0]);
            Sentences.due(c[0] + " changes " + c[1], x.call(c[1]) == kept ? 1 : 0, 0);
            x.due("back()", 1).due(c[1], kept);
        }
    }

    private static void menGo() {
        Sentences.sentence("(MEN that came since go).");
        Hand x = new Hand().calls("image()", "man(0, 0, 50)", "man(0, 0, 50)", "man(0, 0, 50)", "man(0, 0, 50)", "man(5, 9, 50)");
        x.due("man(0, 0, 50)", Hand.FULL).due("back()", 0).due("count(0)", 0).refused("told(0, 2)", BAD).due("man(3, 7, 21)", 0).due("told(0, 2)", 3);
        x.due("image()", 0).due("man(4, 1, 9)", 1).due("back()", 0).due("count(0)", 1).due("told(0, 3)", 7).refused("told(1, 2)", BAD).due("man(2, 2, 8)", 1).due("told(1, 2)", 2);
        Hand full = Hand.with(0, 0, 50, 0, 24, 50, 0, 48, 50, 0, 72, 50, 0, 96, 50).calls("image()");
        full.due("man(0, 0, 50)", Hand.FULL).due("back()", 0).due("count(0)", 5).due("told(4, 3)", 96).refused("man(0, 0, 50)", Hand.FULL);
    }

    private static void back() {
        Sentences.promise(25, "All that it keeps is as in THE IMAGE: THE ROUND. STATE: there is none.");
        Hand x = Hand.with(0, 0, 50).calls("round()", "sheet(0, 1, 3)").feeds("gives");
        x.refused("back()", STATE).refused("back()", STATE).due("count(2)", 1).due("image()", 1).due("back()", 1);
        x.feeds(" 1;drifts 1;hurts 1;").due("text()", 1).due("force(1)", 0).feeds("x").calls("cell(0, 1, 200)", "sheet(1, 0, 1)").due("back()", 1);
        x.due("count(6)", 0).due("count(4)", 2).due("count(5)", 1).due("force(1)", 0).due("men(0, 1, 0, 1)", 1).due("told(1, 3)", 80).due("cell(1, 0, 0)", 1);
    }

    private static void count() {
        Sentences.promise(26, "How many: 0 MEN, 1 THE BAR, 2 THE ROUND, 3 OUT, 4 TEXTS, 5 bytes of THE TAPE, 6 THE RULE. BAD.");
        Hand x = FloorEdges.busy();
        x.refusedFor("count(%)", BAD, LEAST, -1, 7, MOST);
        x.asked("count(0)", 3).asked("count(1)", 120).asked("count(2)", 2).asked("count(3)", 28).asked("count(4)", 2).asked("count(5)", 5).asked("count(6)", 1);
    }
}
