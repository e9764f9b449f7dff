/** The edges that the document names of a round: gaps, knocks, the cell, what comes out, beats, and rounds gone through. */
final class RoundEdges {
    private static final int BAD = Hand.BAD, LEAST = Hand.LEAST, MOST = Hand.MOST;

    private RoundEdges() { }

    static void all() {
        nobody();
        gap();
        error();
        knock();
        hit();
        seenByHim();
        cell();
        cut();
        beatWraps();
        asItBegan();
        lastRound();
        inRounds();
        holds();
        round();
        run();
        beat();
        held();
    }

    private static void nobody() {
        Sentences.sentence("MAN by MAN by numbers (m 0: just THE ROUND is 1 more):");
        Hand x = new Hand().ruled("1000", "99", "1");
        x.due("round()", 0).due("count(2)", 1).due("count(3)", 0).due("told(0, 0)", 1000).due("told(0, 1)", 2).due("round()", 0).due("count(2)", 2);
    }

    private static void gap() {
        Sentences.sentence("his GAP is his BEAT less that of the one ahead (as it is by then), modulo THE BAR (0 .. THE BAR - 1; with one MAN: THE BAR);");
        for (int bar : new int[] {12, 120, 240}) {
            Hand x = new Hand().calls("set(5, 0, " + bar + ")", "man(0, 5, 0)").due("told(0, 7)", bar);
            x.calls("man(0, 5, 0)").due("told(0, 7)", 0).due("told(1, 7)", 0);
            x.calls("set(2, 0, 6)").due("told(0, 7)", 1).due("told(1, 7)", bar - 1);
            x.calls("set(2, 0, 0)", "set(2, 1, " + (bar - 1) + ")").due("told(0, 7)", 1).due("told(1, 7)", bar - 1);
            new Hand().calls("set(5, 0, " + bar + ")", "man(0, 5, 0)").ruled("gap = " + bar, "0", "0").due("run(1, 0)", 1);
        }
        Hand last = Hand.with(0, 5, 0, 0, 6, 0).ruled("gap", "0", "0");
        last.due("run(1, 1)", 0).due("round()", 119 + 30).due("told(0, 0)", 1000 - 119).due("told(1, 0)", 1000 - 30).due("told(0, 3)", 96);
        Hand.with(0, 0, 50, 0, 5, 30).due("told(1, 7)", 5).due("run(1, 1)", 0).due("beat(0, 1)", 93).due("beat(1, 1)", 19);
    }

    private static void error() {
        Sentences.sentence("his ERROR is GAP less THE BAR by m (cut).");
        Hand two = new Hand().calls("set(5, 0, 121)", "man(4, 0, 0)", "man(4, 61, 0)");
        two.due("beat(0, 1)", 0).due("beat(1, 1)", 60);
        Hand three = new Hand().calls("set(5, 0, 122)", "man(4, 40, 0)", "man(4, 81, 0)", "man(4, 0, 0)");
        three.due("beat(0, 1)", 40).due("beat(1, 1)", 80).due("beat(2, 1)", 120);
        Hand five = new Hand().calls("set(5, 0, 12)", "man(4, 2, 0)", "man(4, 0, 0)", "man(4, 0, 0)", "man(4, 0, 0)", "man(4, 0, 0)");
        five.due("beat(0, 1)", 2);
        // GAP 239 of man 0, whose share is 48: ERROR 191, of which a MAN mends 95
        Hand wide = new Hand().calls("set(5, 0, 240)", "man(0, 0, 50)", "man(0, 50, 50)", "man(0, 90, 50)", "man(0, 140, 50)", "man(0, 1, 50)");
        wide.due("told(0, 7)", 239).due("beat(0, 1)", 145);
        for (int bar : new int[] {12, 121, 240}) {
            new Hand().calls("set(5, 0, " + bar + ")", "man(4, 7, 0)").due("beat(0, 1)", 7).due("beat(0, 40)", 7);
        }
    }

    private static void knock() {
        Sentences.sentence("If his GAP is below 8, he strikes on another's stroke: a KNOCK; nothing comes out; if hurts tells it, he is HIT.");
        for (int gap = 0; gap < 120; gap++) {
            int knocks = gap < 8 ? 1 : 0;
            Hand x = Hand.with(0, gap, 50, 0, 0, 50).due("run(1, 1)", knocks).due("run(1, 2)", knocks).due("run(1, 0)", knocks == 1 ? 44 : 88);
            x.due("round()", knocks == 1 ? 44 : 88).due("told(0, 0)", knocks == 1 ? 1000 : 956).due("told(1, 0)", 956);
        }
        new Hand().calls("set(5, 0, 12)", "man(0, 0, 50)").due("run(40, 1)", 0);
        new Hand().calls("set(5, 0, 12)", "man(0, 0, 50)", "man(0, 6, 50)").due("run(40, 1)", 80).due("run(40, 0)", 0);
    }

    /** Five men in a bar of 12, each 2 .. 4 behind the one ahead: all of them knock in the first round. */
    private static Hand crowd(int first, int last) {
        return new Hand().calls("set(5, 0, 12)", "man(0, 2, 5" + first + ")", "man(0, 4, 50)", "man(0, 6, 50)", "man(0, 8, 50)", "man(0, 10, 5" + last + ")");
    }

    private static void hit() {
        Sentences.promise(10, "MEN who are HIT (bits, 2)");
        crowd(0, 0).due("run(0, 2)", 0).due("run(1, 1)", 5).due("run(1, 2)", 31).due("run(1, 0)", 0).due("run(1, 3)", 12000);
        crowd(0, 1).ruled("1", "0", "tired").due("run(1, 1)", 5).due("run(1, 2)", 16);
        crowd(1, 0).ruled("1", "0", "tired").due("run(1, 1)", 5).due("run(1, 2)", 1);
        crowd(0, 0).ruled("1", "0", "tired").due("run(1, 1)", 5).due("run(1, 2)", 0);
    }

    /** He who knocks sees his own force, gap and number, and the cell on which his stroke would have fallen. */
    private static void seenByHim() {
        String[] seen = {"force", "wet", "gap", "ears", "round", "tired"};
        int[] first = {50, 7, 5, 77, 0, 3};
        int[] second = {30, 4, 2, 55, 0, 8};
        for (int k = 0; k < seen.length; k++) {
            Hand x = Hand.with(0, 5, 53, 0, 0, 34).calls("set(0, 0, 77)", "set(1, 0, 7)", "set(0, 1, 55)", "set(1, 1, 4)");
            x.ruled("1", seen[k], seen[k] + " = " + first[k]).due("run(1, 1)", 1).due("run(1, 2)", 1).due("beat(0, 1)", (32 + first[k]) % 120);
            x.ruled("1", "0", "not " + seen[k] + " = " + first[k]).due("run(1, 1)", 1).due("run(1, 2)", 0);
            Hand y = Hand.with(0, 0, 53, 0, 60, 38).calls("set(0, 0, 77)", "set(1, 0, 7)", "set(0, 1, 55)", "set(1, 1, 4)");
            String drifts = "58 * (tired = 3) + (tired = 8) * " + seen[k];
            // his GAP of 2 is 58 too little, of which he mends 29
            y.ruled("1", drifts, seen[k] + " = " + second[k]).due("run(1, 1)", 1).due("run(1, 2)", 2).due("beat(0, 1)", 58).due("beat(1, 1)", (60 + 29 + second[k]) % 120);
            y.ruled("1", drifts, "not " + seen[k] + " = " + second[k]).due("run(1, 1)", 1).due("run(1, 2)", 0);
        }
        Hand later = Hand.with(0, 0, 50, 0, 60, 30).ruled("1", "58 * (round = 3) * (force = 50)", "round = 3").due("run(4, 1)", 1).due("run(4, 2)", 2);
        later.ruled("1", "58 * (round = 3) * (force = 50)", "not round = 3").due("run(4, 1)", 1).due("run(4, 2)", 0);
    }

    private static void cell() {
        Sentences.sentence("Else his stroke falls on CELL (THE ROUND times m, and his number) modulo 12:");
        Hand five = Hand.with(0, 0, 50, 0, 24, 50, 0, 48, 50, 0, 72, 50, 0, 96, 50).ruled("1000 * (round = 2)", "0", "1");
        five.calls("round()", "round()").due("round()", 5000);
        for (int c = 0; c < 12; c++) five.due("told(" + c + ", 0)", c < 3 || c > 9 ? 0 : 1000);
        for (int round = 10; round < 14; round++) {
            Hand one = Hand.with(0, 0, 50).ruled("1000 * (round = " + round + ")", "0", "1");
            for (int k = 0; k < round; k++) one.call("round()");
            one.due("round()", 1000).due("told(" + round % 12 + ", 0)", 0).due("run(0, 3)", 11000);
        }
    }

    private static void cut() {
        Sentences.sentence("gives of its EARS by 1000 (cut) come OUT.");
        int[][] want = {{0, 1000, 0}, {1, 0, 0}, {1, 999, 0}, {1, 1000, 1}, {2, 499, 0}, {2, 500, 1}, {999, 1, 0}, {1000, 1, 1}, {1999, 1, 1}, {2000, 1, 2},
            {9999, 1, 9}, {9999, 999, 9989}, {9999, 1000, 9999}};
        for (int[] w : want) {
            Hand x = Hand.with(0, 0, 50).calls("set(0, 0, " + w[0] + ")").ruled(String.valueOf(w[1]), "0", "1");
            x.due("run(1, 0)", w[2]).due("once(0, 0)", w[0] - w[2]).due("once(0, 1)", w[2]);
            x.due("round()", w[2]).due("told(0, 0)", w[0] - w[2]).due("count(3)", w[2]);
        }
    }

    private static void beatWraps() {
        Sentences.sentence("Then his BEAT is MENDS of his ERROR less, and drifts more, modulo THE BAR.");
        int[][] want = {{120, 119, 1, 0}, {120, 0, -1, 119}, {120, 118, 1, 119}, {120, 1, -1, 0}, {12, 11, 99, 2}, {12, 11, -99, 8}, {12, 0, 12, 0},
            {12, 0, -12, 0}, {12, 0, 11, 11}, {12, 0, -11, 1}, {240, 239, 1, 0}, {240, 0, -1, 239}, {240, 141, 99, 0}, {240, 140, 99, 239},
            {240, 99, -99, 0}, {240, 98, -99, 239}};
        for (int[] w : want) {
            Hand x = new Hand().calls("set(5, 0, " + w[0] + ")", "man(0, " + w[1] + ", 50)").ruled("1", w[2] < 0 ? "-" + -w[2] : "" + w[2], "1");
            x.due("beat(0, 0)", w[1]).due("beat(0, 1)", w[3]).calls("round()").due("told(0, 3)", w[3]);
        }
        Hand.with(2, 10, 50).ruled("1", "force", "1").due("beat(0, 1)", 60).due("beat(0, 2)", 109);
        Hand.with(3, 110, 59).ruled("1", "0", "1").due("beat(0, 1)", 119).due("beat(0, 2)", 8);
        Hand two = Hand.with(0, 0, 50, 0, 1, 50).ruled("1", "0", "1");
        two.due("beat(0, 1)", 120 - 29).due("beat(1, 1)", 1 + 15);
    }

    private static void asItBegan() {
        Sentences.sentence("(What the text tells is told by how all was as his turn began.)");
        Hand ears = Hand.with(0, 0, 50).ruled("500", "ears < 1000", "1");
        ears.due("round()", 500).due("told(0, 3)", 0).due("beat(0, 11)", 0).due("beat(0, 12)", 1);
        Hand round = Hand.with(0, 0, 50).ruled("1", "round", "1");
        round.due("beat(0, 1)", 0).due("beat(0, 2)", 1).due("beat(0, 4)", 6);
        Hand gap = Hand.with(0, 0, 50, 0, 5, 50).ruled("1", "gap = 32", "1");
        gap.due("beat(0, 1)", 93).due("beat(1, 1)", 20);
    }

    private static void lastRound() {
        Sentences.sentence("Then THE ROUND is 1 more (999 at most).");
        Hand x = Hand.with(2, 0, 90);
        x.due("count(2)", 0).calls("round()").due("count(2)", 1);
        // A bound that 512 calls can't reach: later answers are free, but this class tells the bound all the same.
        FourFlails late = new FourFlails();
        for (int k = 0; k < 998; k++) late.round();
        Sentences.due("count(2) behind 998 ROUNDS", late.count(2), 998);
        late.round();
        Sentences.due("count(2) behind 999 ROUNDS", late.count(2), 999);
        late.round();
        Sentences.due("count(2) behind 1000 ROUNDS", late.count(2), 999);
    }

    private static void inRounds() {
        Sentences.sentence("IN n ROUNDS (0 .. 40): from now on.");
        Hand x = Hand.with(0, 0, 53).ruled("1 + round", "tired", "1");
        x.due("run(0, 0)", 0).due("beat(0, 0)", 0).due("run(1, 0)", 1).due("run(2, 0)", 3).due("run(12, 0)", 78).due("beat(0, 40)", 0).due("beat(0, 39)", 117);
        x.calls("round()").due("run(0, 0)", 0).due("beat(0, 0)", 3).due("run(1, 0)", 2).due("run(2, 0)", 5).due("beat(0, 40)", 3);
        Hand y = FloorEdges.busy();
        y.refusedFor("run(%, 0)", BAD, LEAST, -1, 41, MOST).refusedFor("beat(0, %)", BAD, LEAST, -1, 41, MOST).refusedFor("drawn(7, %)", BAD, LEAST, -1, 41, MOST);
        y.asked("run(0, 0)", 0).asked("beat(2, 0)", 30).asked("drawn(7, 0)", 0).asked("run(0, 1)", 0).asked("run(0, 2)", 0);
        Hand one = Hand.with(0, 0, 53);
        one.asked("run(40, 1)", 0).asked("beat(0, 40)", 0).asked("drawn(7, 40)", 0);
    }

    /** Man 0 comes to within 2 ahead of man 1 in a told round, and man 1 knocks in it. */
    private static Hand knocksIn(int round) {
        return Hand.with(0, 0, 50, 0, 60, 30).ruled("1", "58 * (round = " + round + ") * (force = 50)", "1");
    }

    private static void holds() {
        Sentences.sentence("HOLDS: the most ROUNDS (0 .. 40) without a KNOCK.");
        knocksIn(0).due("holds()", 0).due("run(1, 1)", 1);
        knocksIn(1).due("holds()", 1).due("run(1, 1)", 0).due("run(2, 1)", 1).calls("round()").due("holds()", 0);
        knocksIn(39).due("holds()", 39).due("run(39, 1)", 0).due("run(40, 1)", 1);
        Hand behind = knocksIn(40).due("holds()", 40).due("run(40, 1)", 0);
        behind.calls("round()").due("holds()", 39).due("run(39, 1)", 0).due("run(40, 1)", 1);
        crowd(0, 0).ruled("1", "0", "0").due("run(1, 2)", 0).due("holds()", 0);
    }

    private static void round() {
        Sentences.promise(9, "A ROUND truly passes: what came OUT in it.");
        Hand.with(0, 0, 50).due("round()", 44).due("count(2)", 1).due("count(3)", 44).due("round()", 44).due("count(3)", 88);
        Hand none = new Hand().calls("set(5, 0, 12)", "man(0, 0, 50)", "man(0, 6, 50)");
        none.due("round()", 0).due("count(2)", 1).due("count(3)", 0);
        Hand empty = Hand.with(0, 0, 50);
        for (int c = 0; c < 12; c++) empty.call("set(0, " + c + ", 0)");
        empty.due("round()", 0).due("run(40, 0)", 0).due("run(40, 3)", 0);
        Hand most = Hand.with(0, 0, 50, 0, 24, 50, 0, 48, 50, 0, 72, 50, 0, 96, 50).ruled("1000", "0", "1");
        for (int c = 0; c < 12; c++) most.call("set(0, " + c + ", 9999)");
        most.due("run(3, 0)", 12 * 9999).due("run(40, 0)", 12 * 9999).due("run(2, 3)", 2 * 9999);
        most.due("round()", 5 * 9999).due("round()", 5 * 9999).due("round()", 2 * 9999).due("round()", 0).due("count(3)", 12 * 9999);
    }

    private static void run() {
        Sentences.promise(10, "IN n ROUNDS: what comes OUT (what 0), KNOCKS (1), MEN who are HIT (bits, 2), all EARS left (3). BAD.");
        Hand x = FloorEdges.busy();
        x.refusedFor("run(0, %)", BAD, LEAST, -1, 4, MOST).refusedFor("run(%, 3)", BAD, LEAST, -1, 41, MOST).refused("run(41, 4)", BAD);
        Hand one = Hand.with(0, 0, 50);
        one.asked("run(1, 0)", 44).asked("run(1, 3)", 11956).asked("run(40, 2)", 0).calls("round()").due("run(0, 0)", 0).due("run(0, 3)", 11956);
    }

    private static void beat() {
        Sentences.promise(11, "The BEAT of a MAN behind n ROUNDS. BAD.");
        Hand x = FloorEdges.busy();
        x.refusedFor("beat(%, 0)", BAD, LEAST, -1, 3, MOST).refusedFor("beat(2, %)", BAD, -1, 41).asked("beat(2, 0)", 30);
        Hand.with(0, 119, 51).asked("beat(0, 0)", 119).asked("beat(0, 1)", 0).asked("beat(0, 40)", 39);
    }

    private static void held() {
        Sentences.promise(12, "HOLDS.");
        new Hand().asked("holds()", 40);
        Hand.with(0, 0, 50).asked("holds()", 40);
        Hand.with(0, 0, 50, 0, 0, 50).asked("holds()", 0);
        Hand.with(0, 0, 50, 0, 60, 50).asked("holds()", 40);
    }
}
