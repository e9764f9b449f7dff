import java.util.Arrays;

/** What each call that changes something changes, and that it changes nothing else of all that calls tell. */
final class WhatChanges {
    private WhatChanges() { }

    static void all() {
        Sentences.sentence("Nothing is promised beyond the answers and state changes described above,");
        men();
        floor();
        texts();
        rounds();
        straw();
        image();
        sheets();
        copies();
        menBySheet();
        atFirst();
        asking();
    }

    /** Three MEN of BEATS 2, 68 and 30 in ROUND 2, of which two stand in the image of ROUND 1; TEXT 1 is THE RULE. */
    private static Hand busy() {
        return FloorEdges.busy().dueFrom("told(%, 3)", 0, 2, 68, 30).dueFrom("count(%)", 0, 3, 120, 2, 28, 2, 5, 1);
    }

    private static void men() {
        busy().changes("man(1, 5, 23)", 3, "now count(0)", "now told(3, 2)", "now told(3, 3)", "now told(3, 4)", "now told(3, 5)");
        busy().changes("set(2, 1, 50)", 68, "now told(1, 3)").due("told(1, 3)", 50);
        busy().changes("set(3, 0, 7)", 5, "now told(0, 4)").due("told(0, 4)", 7);
        busy().changes("set(4, 2, 9)", 1, "now told(2, 5)").due("told(2, 5)", 9);
        busy().changes("set(5, 0, 60)", 120, "now count(1)", "now told(1, 3)").due("told(1, 3)", 8);
        busy().changes("set(5, 0, 240)", 120, "now count(1)").due("count(1)", 240);
        busy().changes("set(2, 1, 68)", 68).changes("set(3, 1, 4)", 4).changes("set(4, 1, 2)", 2).changes("set(5, 1, 120)", 120);
    }

    private static void floor() {
        busy().changes("set(0, 3, 5000)", 77, "now told(3, 0)").due("told(3, 0)", 5000);
        busy().changes("set(0, 6, 5000)", 1000, "now told(6, 0)").due("told(6, 0)", 5000);
        busy().changes("set(0, 11, 0)", 1000, "now told(11, 0)").due("told(11, 0)", 0);
        busy().changes("set(1, 4, 0)", 9, "now told(4, 1)").due("told(4, 1)", 0);
        busy().changes("set(1, 7, 0)", 2, "now told(7, 1)").due("told(7, 1)", 0);
        busy().changes("set(0, 3, 77)", 77).changes("set(1, 4, 9)", 9);
    }

    private static void texts() {
        busy().changes("feed(32)", 6, "now count(5)", "tape text()").changes("feed(36)", 7, "now count(5)");
        busy().changes("text()", -105, "now count(5)", "tape text()").changes("text()", -100);
        // what the tape would be read to stands as text 2 in all that is told ahead, too
        busy().feeds(" 9;drifts 1;hurts 1;").changes("text()", 2, "now count(4)", "now count(5)", "tape text()");
        busy().changes("force(0)", 1, "now count(6)").changes("force(1)", 0, "now count(6)").changes("force(1)", 1);
    }

    private static void rounds() {
        busy().changes("round()", 21, "now count(2)", "now count(3)", "now told(6, 0)", "now told(7, 0)", "now told(8, 0)", "now told(0, 3)", "now told(1, 3)", "now told(2, 3)")
            .dueFrom("told(%, 3)", 0, 96, 64, 25).dueFrom("told(%, 0)", 5, 1000, 993, 993, 993, 1000).due("count(3)", 49);
        new Hand().changes("round()", 0, "now count(2)", "kept count(2)");
    }

    private static void straw() {
        Hand x = busy();
        String[] told = new String[20];
        for (int k = 0; k < 4; k++) {
            told[k] = "now told(" + k + ", 0)";
            told[4 + k] = "now told(" + (8 + k) + ", 0)";
        }
        for (int c = 0; c < 12; c++) told[8 + c] = "now told(" + c + ", 1)";
        x.changes("turn()", 19, told).dueFrom("told(%, 0)", 0, 1000, 1000, 1000, 1000, 1000, 1000, 1000, 1000, 77, 993, 993, 993);
    }

    private static void image() {
        String[] otherwise = {"count(0)", "count(2)", "count(3)", "told(2, 0)", "told(3, 0)", "told(4, 1)", "told(0, 3)", "told(1, 3)", "told(2, 2)", "told(2, 3)", "told(2, 4)", "told(2, 5)"};
        String[] now = new String[12], kept = new String[12];
        for (int k = 0; k < 12; k++) {
            now[k] = "now " + otherwise[k];
            kept[k] = "kept " + otherwise[k];
        }
        busy().changes("back()", 1, now).changes("back()", 1).changes("image()", 1);
        busy().changes("image()", 2, join(kept, "kept back()", "text ")).changes("image()", 2).changes("back()", 2);
        busy().calls("force(0)", "set(5, 0, 240)").changes("back()", 1, join(now, "now count(1)", "now count(6)"));
    }

    private static String[] join(String[] some, String... more) {
        String[] all = Arrays.copyOf(some, some.length + more.length);
        System.arraycopy(more, 0, all, some.length, more.length);
        return all;
    }

    private static void sheets() {
        busy().changes("sheet(3, 1, 2)", 1, "sheet 3 copy", "sheet 3 men");
        busy().changes("sheet(0, 2, 6)", 1, "sheet 0 item 0 ", "sheet 0 item 3 ");
        busy().changes("sheet(0, 2, 7)", 1, "sheet 0 item 0 ", "sheet 0 item 3 ", "sheet 0 copy");
        busy().changes("sheet(0, -1, 6)", 1, "sheet 0 ").changes("sheet(0, -1, 0)", 1).changes("sheet(3, -1, 0)", 1);
        busy().changes("sheet(3, -1, 0)", 1).changes("sheet(2, -1, 0)", 1, "sheet 2 ");
        busy().changes("sheet(2, 0, 0)", 1).changes("sheet(2, 1, 0)", 1, "sheet 2 men");
        busy().changes("cell(0, 0, 5)", 1, "sheet 0 item 0 2").changes("cell(0, 1, 20)", 1, "sheet 0 item 0 3");
        busy().changes("cell(0, 5, 88)", 1, "sheet 0 item 3 4", "sheet 0 item 3 5").changes("cell(0, 5, 88)", 1).changes("cell(1, 2, 55)", 1, "sheet 1 item 0 5");
    }

    private static void copies() {
        busy().changes("copy(0, 0, 0, 3, 3)", 3, "sheet 0 item 3 2", "sheet 0 item 3 3", "sheet 0 item 3 4", "sheet 0 item 3 5");
        busy().changes("copy(0, 4, 0, 1, 1)", 1, "sheet 0 item 0 3").changes("copy(0, 0, 0, 0, 6)", 6).changes("copy(0, 0, 0, 3, 0)", 0);
        busy().calls("sheet(3, 2, 3)", "cell(3, 0, 3)").changes("copy(0, 3, 3, 1, 2)", 2, "sheet 3 item 0 3", "sheet 3 item 0 5")
            .changes("copy(0, 3, 3, 0, 2)", 2, "sheet 3 item 0 2", "sheet 3 item 0 3");
    }

    private static void menBySheet() {
        String[] third = {"now count(0)", "now told(3, 2)", "now told(3, 3)", "now told(3, 4)", "now told(3, 5)"};
        String[] fourth = {"now told(4, 2)", "now told(4, 3)", "now told(4, 4)", "now told(4, 5)"};
        busy().changes("men(0, 2, 0, 1)", 1, join(third)).dueFrom("told(3, %)", 2, 1, 9, 3, 4);
        busy().changes("men(0, 2, 0, 2)", 2, join(join(third, fourth))).dueFrom("told(4, %)", 2, 2, 8, 1, 2).changes("men(0, 2, 0, 2)", 0);
        busy().changes("men(0, 2, 3, 2)", Hand.OUTSIDE, join(third)).dueFrom("told(3, %)", 2, 2, 8, 1, 2);
        busy().calls("cell(0, 0, 6)").changes("men(0, 2, 0, 1)", 0).changes("men(0, 2, 0, 2)", 1, join(third));
    }

    /** The first call of a sort: busy() has gone through most of them, so that what only the first one spoils is not told by it. */
    private static void atFirst() {
        Hand first = Hand.with(0, 0, 50).calls("image()");
        first.again().changes("man(3, 7, 21)", 1, "now count(0)", "now told(1, 2)", "now told(1, 3)", "now told(1, 4)", "now told(1, 5)");
        first.again().changes("set(0, 7, 5)", 1000, "now told(7, 0)");
        first.again().changes("set(1, 7, 5)", 2, "now told(7, 1)");
        first.again().changes("set(2, 0, 5)", 0, "now told(0, 3)");
        first.again().changes("set(3, 0, 1)", 5, "now told(0, 4)");
        first.again().changes("set(4, 0, 1)", 0, "now told(0, 5)");
        first.again().changes("set(5, 0, 12)", 120, "now count(1)");
        first.again().changes("feed(32)", 1, "now count(5)", "tape text()");
        first.again().changes("text()", -100).changes("force(0)", 0);
        first.again().feeds("gives 1;drifts 2;hurts 0;").changes("text()", 1, "now count(4)", "now count(5)", "tape text()").changes("force(1)", 0, "now count(6)");
        first.again().changes("round()", 44, "now count(2)", "now count(3)", "now told(0, 0)");
        first.again().changes("image()", 0).changes("back()", 0);
        first.again().changes("sheet(1, 2, 3)", 1, "sheet 1 ").changes("cell(1, 2, 9)", 1, "sheet 1 item 0 5").changes("men(1, 2, 0, 1)", 1, "now count(0)", "now told(1, ");
        first.again().changes("sheet(1, -1, 0)", 1);
    }

    /** What these calls answer is held elsewhere; here, twice the same, and that nothing is otherwise behind them. */
    private static void asking() {
        String[] calls = {"told(3, 0)", "told(4, 1)", "told(1, 2)", "told(1, 3)", "told(1, 4)", "told(1, 5)", "told(1, 6)", "told(1, 7)", "mends(1, 77)", "run(12, 0)", "run(40, 1)",
            "run(40, 2)", "run(12, 3)", "beat(1, 40)", "holds()", "bar(0)", "bar(1)", "order(-1)", "order(0)", "order(2)", "home()", "when()", "stop(7)", "fewest(100)", "judge(0, 0)",
            "judge(1, 1)", "slow(0)", "drawn(5, 40)", "once(3, 0)", "once(3, 1)", "count(0)", "count(1)", "count(2)", "count(3)", "count(4)", "count(5)", "count(6)", "taken(2, 3)"};
        Hand x = busy();
        for (String c : calls) {
            long first = busy().call(c);
            busy().changes(c, first);
            x.due(c, first);
        }
        for (String c : calls) x.due(c, busy().call(c));
    }
}
