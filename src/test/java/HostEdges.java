/** The edges that the document names of sheets: their sorts, sizes and items, what is copied, the men in them, and kinds. */
final class HostEdges {
    private static final int BAD = Hand.BAD, NOTHING = Hand.NOTHING, OUTSIDE = Hand.OUTSIDE, OTHER = Hand.OTHER, BELOW = Hand.BELOW;
    private static final int LEAST = Hand.LEAST, MOST = Hand.MOST;

    private HostEdges() { }

    static void all() {
        missing();
        sheet();
        sheetAnew();
        cell();
        bits();
        copy();
        copyAsTheyWere();
        copyOutside();
        men();
        menOutside();
        menLeftOut();
        taken();
        kinds();
    }

    private static Hand filled(int sort, int... items) {
        Hand x = new Hand().calls("set(5, 0, 240)", "image()", "sheet(0, " + sort + ", " + items.length + ")");
        for (int k = 0; k < items.length; k++) x.call("cell(0, " + k + ", " + items[k] + ")");
        return x;
    }

    /** The MEN in a sheet, KIND, BEAT, FORCE and NUMBER of each in one row; nobody stays. */
    private static void holds(Hand x, int sheet, int sort, int... want) {
        for (int m = 0; 4 * m + 3 < want.length; m++) {
            x.due("men(" + sheet + ", " + sort + ", " + 3 * m + ", 1)", 1);
            x.dueFrom("told(0, %)", 2, want[4 * m], want[4 * m + 1], want[4 * m + 2], want[4 * m + 3]).due("back()", 0);
        }
    }

    private static void missing() {
        Sentences.sentence("==== 3 SHEETS 0 .. 3 are rows of numbers, or missing (as all are at first): of sort 0 bytes, 1 shorts, 2 ints (with their sign).");
        Hand x = Hand.with(0, 0, 50);
        for (int s = 0; s < 4; s++) {
            x.refused("cell(" + s + ", 0, 0)", NOTHING).refused("judge(0, " + s + ")", NOTHING).refused("men(" + s + ", 0, 0, 0)", NOTHING)
                .refused("copy(" + s + ", 0, " + s + ", 0, 0)", NOTHING);
        }
        for (int s = 0; s < 4; s++) x.due("sheet(" + s + ", " + s % 3 + ", 1)", 1).due("cell(" + s + ", 0, 7)", 1);
        Hand y = FloorEdges.busy();
        for (int s : new int[] {LEAST, -1, 4, MOST}) {
            y.refused("sheet(" + s + ", 0, 1)", BAD).refused("cell(" + s + ", 0, 0)", BAD).refused("men(" + s + ", 0, 0, 0)", BAD);
            y.refused("copy(" + s + ", 0, 0, 0, 0)", BAD).refused("copy(0, 0, " + s + ", 0, 0)", BAD).refused("judge(0, " + s + ")", BAD);
        }
    }

    private static void sheet() {
        Sentences.promise(27, "BAD: no such SHEET, sort; n above 40; -14.");
        Hand x = FloorEdges.busy();
        x.refusedFor("sheet(%, 2, 1)", BAD, LEAST, -1, 4, MOST).refusedFor("sheet(0, %, 1)", BAD, LEAST, -2, 3, MOST);
        x.refusedFor("sheet(0, 2, %)", BAD, 41, MOST).refusedFor("sheet(0, 2, %)", BELOW, LEAST, -1).refusedFor("sheet(3, 0, %)", BELOW, -1);
        Hand y = FloorEdges.busy();
        y.refused("sheet(4, -1, 0)", BAD).refused("sheet(0, 3, 41)", BAD).refused("sheet(0, -2, -1)", BAD).refused("sheet(3, 2, 41)", BAD);
        for (int sort = 0; sort < 3; sort++) {
            y.due("sheet(3, " + sort + ", 0)", 1).due("cell(3, 0, 0)", OUTSIDE);
            y.due("sheet(3, " + sort + ", 1)", 1).due("cell(3, 0, 0)", 1).due("cell(3, 1, 0)", OUTSIDE);
            y.due("sheet(3, " + sort + ", 40)", 1).due("cell(3, 39, 0)", 1).due("cell(3, 40, 0)", OUTSIDE);
        }
    }

    private static void sheetAnew() {
        Sentences.promise(27, "A SHEET becomes a row of n of a sort, all 0, or missing (sort -1: n does not matter): 1.");
        Hand x = filled(1, 1, 20, 33, 2, 30, 44);
        holds(x, 0, 1, 1, 20, 3, 3, 2, 30, 4, 4);
        x.due("sheet(0, 1, 6)", 1);
        holds(x, 0, 1, 0, 0, 0, 0, 0, 0, 0, 0);
        x.due("sheet(0, 2, 3)", 1).due("men(0, 1, 0, 1)", OTHER).due("men(0, 2, 0, 1)", 1).due("men(0, 2, 3, 1)", OUTSIDE);
        for (int n : new int[] {0, -1, 41, LEAST, MOST}) {
            x.due("sheet(1, 0, 1)", 1).due("sheet(1, -1, " + n + ")", 1).refused("cell(1, 0, 0)", NOTHING).due("sheet(1, -1, " + n + ")", 1).due("cell(1, 0, 0)", NOTHING);
        }
        x.due("cell(0, 2, 0)", 1);
    }

    private static void cell() {
        Sentences.promise(28, "BAD: no such SHEET; -11; -12.");
        Hand x = FloorEdges.busy();
        x.refusedFor("cell(%, 0, 0)", BAD, LEAST, -1, 4, MOST).refusedFor("cell(3, %, 0)", NOTHING, LEAST, -1, 0, 40, MOST);
        x.refusedFor("cell(0, %, 0)", OUTSIDE, LEAST, -1, 6, MOST).refusedFor("cell(2, %, 0)", OUTSIDE, -1, 0, 1).refusedFor("cell(1, %, 0)", OUTSIDE, -1, 3);
        x.due("cell(0, 0, 5)", 1).due("cell(0, 5, 98)", 1).due("men(0, 2, 0, 2)", 2).due("told(3, 2)", 5).due("told(4, 4)", 9).due("told(4, 5)", 8);
    }

    /** An item v stands for a BEAT, or (-1) for none, so that its man is left out. */
    private static void item(int sort, int v, int beat) {
        Hand x = filled(sort, 0, 0, 0).due("cell(0, 1, " + v + ")", 1).due("men(0, " + sort + ", 0, 1)", beat < 0 ? 0 : 1);
        if (beat >= 0) x.due("told(0, 3)", beat);
    }

    private static void bits() {
        Sentences.promise(28, "Item i of a SHEET becomes v (of bytes, shorts its lowest 8, 16 bits): 1.");
        int[][] bytes = {{0, 0}, {127, 127}, {128, -1}, {200, -1}, {255, -1}, {256, 0}, {257, 1}, {383, 127}, {384, -1}, {-1, -1}, {-128, -1}, {-129, 127}, {-256, 0},
            {65536, 0}, {LEAST, 0}, {LEAST + 9, 9}, {MOST, -1}, {MOST - 128, 127}};
        int[][] shorts = {{0, 0}, {128, 128}, {239, 239}, {240, -1}, {256, -1}, {32767, -1}, {32768, -1}, {65535, -1}, {65536, 0}, {65775, 239}, {-1, -1}, {-65535, 1}, {-65536, 0},
            {LEAST, 0}, {LEAST + 9, 9}, {MOST, -1}, {MOST - 65535 + 200, 200}};
        int[][] ints = {{0, 0}, {128, 128}, {239, 239}, {240, -1}, {256, -1}, {65536, -1}, {65537, -1}, {-1, -1}, {LEAST, -1}, {LEAST + 9, -1}, {MOST, -1}};
        for (int[] b : bytes) item(0, b[0], b[1]);
        for (int[] s : shorts) item(1, s[0], s[1]);
        for (int[] i : ints) item(2, i[0], i[1]);
    }

    private static void copy() {
        Sentences.promise(29, "BAD: no such SHEET; -11; -13: they are of unlike sorts; -12 (also with n below 0).");
        Hand x = FloorEdges.busy().calls("sheet(2, 2, 2)");
        x.refusedFor("copy(%, 0, 0, 0, 1)", BAD, LEAST, -1, 4, MOST).refusedFor("copy(0, 0, %, 0, 1)", BAD, LEAST, -1, 4, MOST);
        x.refused("copy(3, 0, 0, 0, 1)", NOTHING).refused("copy(0, 0, 3, 0, 1)", NOTHING).refused("copy(3, 0, 3, 0, 0)", NOTHING);
        x.refused("copy(0, 0, 1, 0, 1)", OTHER).refused("copy(1, 0, 0, 0, 0)", OTHER).refused("copy(1, 0, 2, 0, -1)", OTHER);
        x.refusedFor("copy(0, 0, 2, 0, %)", OUTSIDE, LEAST, -1, 3, MOST).asked("copy(0, 0, 2, 0, 0)", 0).due("copy(0, 0, 2, 0, 2)", 2);
    }

    private static void copyAsTheyWere() {
        Sentences.promise(29, "n numbers of a SHEET, from item i on, come to another one's (or its own) item j on (as they were): n.");
        for (int sort = 0; sort < 3; sort++) {
            holds(filled(sort, 0, 10, 11, 1, 20, 22, 2, 30, 33).due("copy(0, 0, 0, 3, 6)", 6), 0, sort, 0, 10, 1, 1, 0, 10, 1, 1, 1, 20, 2, 2);
            holds(filled(sort, 0, 10, 11, 1, 20, 22, 2, 30, 33).due("copy(0, 3, 0, 0, 6)", 6), 0, sort, 1, 20, 2, 2, 2, 30, 3, 3, 2, 30, 3, 3);
            holds(filled(sort, 0, 10, 11, 1, 20, 22).due("copy(0, 0, 0, 0, 6)", 6), 0, sort, 0, 10, 1, 1, 1, 20, 2, 2);
            Hand other = filled(sort, 0, 10, 11, 1, 20, 22).calls("sheet(3, " + sort + ", 3)").due("copy(0, 3, 3, 0, 3)", 3);
            holds(other, 3, sort, 1, 20, 2, 2);
            holds(other, 0, sort, 0, 10, 1, 1, 1, 20, 2, 2);
            holds(other.due("cell(0, 3, 4)", 1).due("cell(0, 5, 99)", 1), 3, sort, 1, 20, 2, 2);
            holds(other.due("copy(0, 5, 3, 2, 1)", 1), 3, sort, 1, 20, 9, 9);
            holds(other.due("copy(0, 0, 3, 0, 0)", 0), 3, sort, 1, 20, 9, 9);
        }
        filled(0, 0, 200, 0).calls("sheet(1, 0, 3)").due("copy(0, 0, 1, 0, 3)", 3).due("men(1, 0, 0, 1)", 0).due("men(0, 0, 0, 1)", 0);
        Hand whole = new Hand().calls("sheet(0, 2, 40)", "sheet(1, 2, 40)").due("copy(0, 0, 1, 0, 40)", 40).due("copy(0, 39, 1, 39, 1)", 1);
        whole.refused("copy(0, 0, 1, 0, 41)", OUTSIDE).refused("copy(0, 1, 1, 0, 40)", OUTSIDE).refused("copy(0, 0, 1, 1, 40)", OUTSIDE);
    }

    private static void copyOutside() {
        Hand x = filled(2, 0, 10, 11, 1, 20, 22).calls("sheet(1, 2, 3)");
        x.refusedFor("copy(0, %, 1, 0, 1)", OUTSIDE, LEAST, -1, 6, MOST).refusedFor("copy(0, 0, 1, %, 1)", OUTSIDE, LEAST, -1, 3, MOST);
        x.refusedFor("copy(0, %, 1, 0, 0)", OUTSIDE, LEAST, -1, 7, MOST).refusedFor("copy(0, 0, 1, %, 0)", OUTSIDE, LEAST, -1, 4, MOST);
        Hand y = filled(2, 0, 10, 11, 1, 20, 22).calls("sheet(1, 2, 3)");
        y.refused("copy(0, 4, 1, 0, 3)", OUTSIDE).refused("copy(0, 0, 1, 1, 3)", OUTSIDE).refused("copy(0, 0, 1, 0, 4)", OUTSIDE).refused("copy(1, 0, 0, 0, 4)", OUTSIDE);
        y.refused("copy(0, 1, 1, 1, " + MOST + ")", OUTSIDE).refused("copy(0, " + MOST + ", 1, 0, " + MOST + ")", OUTSIDE).refused("copy(0, 5, 0, 0, 2)", OUTSIDE);
        y.asked("copy(0, 6, 1, 3, 0)", 0).due("copy(0, 3, 1, 0, 3)", 3).due("copy(0, 5, 1, 2, 1)", 1);
    }

    private static void men() {
        Sentences.promise(30, "BAD: no such SHEET, sort, n; -13; -11 (also with n 0);");
        Hand x = FloorEdges.busy();
        x.refusedFor("men(%, 2, 0, 1)", BAD, LEAST, -1, 4, MOST).refusedFor("men(0, %, 0, 1)", BAD, LEAST, -1, 3, MOST).refusedFor("men(0, 2, 0, %)", BAD, LEAST, -1, 6, MOST);
        x.refusedFor("men(0, %, 0, 1)", OTHER, 0, 1).refusedFor("men(1, %, 0, 0)", OTHER, 0, 2).refusedFor("men(2, %, 0, 5)", OTHER, 1, 2);
        x.refusedFor("men(3, %, 0, 0)", NOTHING, 0, 1, 2);
        Hand y = FloorEdges.busy();
        y.refusedFor("men(3, 0, 0, %)", NOTHING, 1, 5).refused("men(3, 3, 0, 0)", BAD).refused("men(3, 0, 0, 6)", BAD).refused("men(1, 2, 0, 6)", BAD).refused("men(1, 2, -1, 5)", OTHER);
        y.asked("men(0, 2, 0, 0)", 0).asked("men(2, 0, 0, 0)", 0).due("men(0, 2, 0, 1)", 1).due("men(0, 2, 3, 1)", 1).due("count(0)", 5);
    }

    private static void menOutside() {
        Sentences.promise(30, "-12: what stood ahead came.");
        Hand x = filled(2, 0, 10, 11, 1, 20, 22, 2, 30);
        x.refusedFor("men(0, 2, %, 1)", OUTSIDE, LEAST, -1, 6, 7, 8, 9, MOST - 1, MOST).refused("men(0, 2, -3, 2)", OUTSIDE).refusedFor("men(0, 2, %, 5)", OUTSIDE, MOST - 2, MOST);
        x.due("men(0, 2, 0, 2)", 2).due("back()", 0).due("men(0, 2, 0, 3)", OUTSIDE).due("count(0)", 2).due("told(1, 3)", 20).due("back()", 0);
        x.due("men(0, 2, 3, 5)", OUTSIDE).due("count(0)", 1).due("told(0, 3)", 20).due("back()", 0);
        x.due("men(0, 2, 5, 1)", 0).due("men(0, 2, 6, 1)", OUTSIDE).due("count(0)", 0);
        Hand end = filled(2, 0, 10, 11, 1, 20, 22, 2, 30, 33).due("men(0, 2, 6, 1)", 1).due("men(0, 2, 7, 1)", OUTSIDE).due("count(0)", 1);
        end.due("men(0, 2, 0, 4)", OUTSIDE).due("count(0)", 4).due("men(0, 2, 0, 4)", OUTSIDE).due("count(0)", 5).due("men(0, 2, 0, 4)", OUTSIDE).due("men(0, 2, 0, 3)", 0);
        new Hand().calls("sheet(0, 0, 0)").refused("men(0, 0, 0, 1)", OUTSIDE).due("men(0, 0, 0, 0)", 0).due("men(0, 0, 99, 0)", 0).due("men(0, 0, -1, 0)", 0);
        new Hand().calls("sheet(0, 0, 2)").refused("men(0, 0, 0, 1)", OUTSIDE).calls("sheet(0, 0, 3)").due("men(0, 0, 0, 1)", 1);
    }

    private static void menLeftOut() {
        Sentences.promise(30, "MEN by a SHEET that is taken for one of a sort: from one on, three by three (as of man()), n of them (0 .. 5): how many came (others are left out).");
        Hand x = filled(1, -1, 0, 0, 6, 0, 0, 0, -1, 0, 0, 240, 0, 0, 0, -1, 0, 0, 100, 0, 0, 0, 5, 239, 99);
        x.due("men(0, 1, 0, 5)", 0).due("count(0)", 0).due("men(0, 1, 9, 5)", 2).due("told(0, 2)", 0).dueFrom("told(1, %)", 2, 5, 239, 9, 9);
        x.due("men(0, 1, 18, 2)", 2).due("men(0, 1, 18, 2)", 1).due("men(0, 1, 18, 2)", 0).due("count(0)", 5).due("told(4, 2)", 0);
        Hand five = filled(0, 0, 10, 51, 1, 20, 52, 2, 30, 53, 3, 40, 54, 4, 50, 55).due("men(0, 0, 0, 5)", 5).due("count(0)", 5);
        five.dueFrom("told(%, 3)", 0, 10, 20, 30, 40, 50).dueFrom("told(%, 2)", 0, 0, 1, 2, 3, 4).due("men(0, 0, 0, 5)", 0);
        new Hand().calls("sheet(0, 1, 3)", "cell(0, 1, 239)").due("men(0, 1, 0, 1)", 1).due("told(0, 3)", 119);
    }

    private static void taken() {
        Sentences.promise(31, "his FORCE. BAD: k; -11: no such MAN; -13.");
        Hand x = FloorEdges.busy();
        x.refusedFor("taken(0, %)", BAD, LEAST, -1, 6, MOST).refusedFor("taken(3, %)", BAD, -1, 6).refusedFor("taken(%, 0)", NOTHING, LEAST, -1, 3, MOST);
        x.refusedFor("taken(0, %)", OTHER, 1, 2, 3, 4, 5).refusedFor("taken(3, %)", NOTHING, 5);
        x.asked("taken(0, 0)", 5).asked("taken(2, 5)", 2).asked("taken(2, 0)", 2);
        Hand.with(0, 0, 9, 0, 0, 99).due("taken(0, 0)", 0).due("taken(1, 0)", 9).due("taken(0, 1)", OTHER);
    }

    private static void kinds() {
        Sentences.promise(31, "A MAN taken for one of KIND k (0 .. 5), or one under that one (also by others between):");
        int[] under = {0b000001, 0b000011, 0b000101, 0b001101, 0b010011, 0b101101};
        for (int kind = 0; kind < 6; kind++) {
            Hand x = Hand.with(kind, 0, 70);
            for (int k = 0; k < 6; k++) x.due("taken(0, " + k + ")", (under[kind] >> k & 1) == 1 ? 7 : OTHER);
        }
    }
}
