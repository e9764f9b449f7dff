/** For each promise, by its number, answers worked out by hand: ordinary inputs, edges, wrong inputs. */
public final class PromisesTest {
    private static final int NONE = -1, BAD = -2, STATE = -3, FULL = -4;
    private static final int[] WILD = {Integer.MIN_VALUE, Integer.MIN_VALUE + 1, -1000, Integer.MAX_VALUE - 1, Integer.MAX_VALUE};
    private static int wrong = 0;
    private static int asked = 0;
    private static int promise = 0;

    private static void due(String call, long got, long want) {
        asked++;
        if (got != want) {
            wrong++;
            System.out.println("promise " + promise + ": " + call + " answered " + got + ", due is " + want);
        }
    }

    private static void feedAll(FourFlails x, String s) {
        for (int k = 0; k < s.length(); k++) {
            x.feed(s.charAt(k));
        }
    }

    private static int read(FourFlails x, String s) {
        feedAll(x, s);
        return x.text();
    }

    private static void rule(FourFlails x, String s) {
        int t = read(x, s);
        due("text of '" + s + "' is one (answered " + t + ")", t > 0 ? 1 : 0, 1);
        x.force(t);
    }

    private static FourFlails with(int... men) {
        FourFlails x = new FourFlails();
        for (int k = 0; k + 2 < men.length; k += 3) {
            x.man(men[k], men[k + 1], men[k + 2]);
        }
        return x;
    }

    /** All of the state that calls can tell, to see that refusals and trials change nothing. */
    private static String state(FourFlails x) {
        StringBuilder s = new StringBuilder();
        for (int k = 0; k < 7; k++) s.append(x.count(k)).append(' ');
        for (int c = 0; c < 12; c++) s.append(x.told(c, 0)).append('/').append(x.told(c, 1)).append(' ');
        for (int m = 0; m < x.count(0); m++) for (int k = 2; k < 8; k++) s.append(x.told(m, k)).append(' ');
        return s.toString();
    }

    private static void same(String what, String before, FourFlails x) {
        due(what + " changes nothing: " + before + " / " + state(x), before.equals(state(x)) ? 1 : 0, 1);
    }

    private static void p1newObject() {
        FourFlails x = new FourFlails();
        int[] counts = {0, 120, 0, 0, 1, 0, 0};
        for (int k = 0; k < 7; k++) due("count(" + k + ")", x.count(k), counts[k]);
        for (int c = 0; c < 12; c++) {
            due("told(" + c + ", 0)", x.told(c, 0), 1000);
            due("told(" + c + ", 1)", x.told(c, 1), 2);
        }
        for (int s = 0; s < 4; s++) due("cell(" + s + ", 0, 0)", x.cell(s, 0, 0), -11);
        due("told(0, 2)", x.told(0, 2), BAD);
        due("back()", x.back(), STATE);
        FourFlails y = new FourFlails();
        x.man(0, 0, 50);
        due("count(0) of another object", y.count(0), 0);
    }

    private static void p2man() {
        FourFlails x = new FourFlails();
        String before = state(x);
        int[][] bad = {{-1, 0, 0}, {6, 0, 0}, {0, -1, 0}, {0, 240, 0}, {0, 0, -1}, {0, 0, 100}};
        for (int[] b : bad) due("man of a wrong number", x.man(b[0], b[1], b[2]), BAD);
        for (int w : WILD) {
            due("man(" + w + ", 0, 0)", x.man(w, 0, 0), BAD);
            due("man(0, " + w + ", 0)", x.man(0, w, 0), BAD);
            due("man(0, 0, " + w + ")", x.man(0, 0, w), BAD);
        }
        same("man refused", before, x);
        due("man(0, 0, 0)", x.man(0, 0, 0), 0);
        due("man(5, 239, 99)", x.man(5, 239, 99), 1);
        due("its KIND", x.told(1, 2), 5);
        due("its BEAT, held by 120", x.told(1, 3), 119);
        due("its FORCE", x.told(1, 4), 9);
        due("its NUMBER", x.told(1, 5), 9);
        due("man(4, 120, 70)", x.man(4, 120, 70), 2);
        due("BEAT 120 held by 120", x.told(2, 3), 0);
        due("FORCE of 70", x.told(2, 4), 7);
        due("NUMBER of 70", x.told(2, 5), 0);
        due("man(1, 7, 8)", x.man(1, 7, 8), 3);
        due("FORCE of 8", x.told(3, 4), 0);
        due("NUMBER of 8", x.told(3, 5), 8);
        due("the fifth", x.man(2, 3, 45), 4);
        before = state(x);
        due("the sixth", x.man(2, 3, 45), FULL);
        due("BAD is named ahead of FULL", x.man(6, 0, 0), BAD);
        due("BAD is named ahead of FULL", x.man(0, 240, 0), BAD);
        due("BAD is named ahead of FULL", x.man(0, 0, 100), BAD);
        same("man refused", before, x);
        FourFlails y = new FourFlails();
        y.set(5, 0, 240);
        y.man(0, 239, 11);
        due("BEAT 239 held by 240", y.told(0, 3), 239);
    }

    private static void p3set() {
        FourFlails x = with(0, 100, 50, 1, 30, 42);
        due("set(0, 3, 9999)", x.set(0, 3, 9999), 1000);
        due("set(0, 3, 0)", x.set(0, 3, 0), 9999);
        due("told(3, 0)", x.told(3, 0), 0);
        due("set(1, 11, 9)", x.set(1, 11, 9), 2);
        due("set(1, 11, 0)", x.set(1, 11, 0), 9);
        due("set(2, 1, 239)", x.set(2, 1, 239), 30);
        due("held", x.set(2, 1, 0), 119);
        due("set(2, 1, 30)", x.set(2, 1, 30), 0);
        due("set(3, 0, 9)", x.set(3, 0, 9), 5);
        due("set(3, 0, 0)", x.set(3, 0, 0), 9);
        due("set(4, 1, 9)", x.set(4, 1, 9), 2);
        due("set(4, 1, 0)", x.set(4, 1, 0), 9);
        due("set(5, MIN, 240)", x.set(5, Integer.MIN_VALUE, 240), 120);
        due("set(2, 0, 239)", x.set(2, 0, 239), 100);
        due("set(5, 99, 12)", x.set(5, 99, 12), 240);
        due("239 held by 12", x.told(0, 3), 11);
        due("30 held by 12", x.told(1, 3), 6);
        due("set(5, 0, 120)", x.set(5, 0, 120), 12);
        due("a BEAT stays as it was held", x.told(0, 3), 11);
        String before = state(x);
        int[][] bad = {{-1, 0, 0}, {6, 0, 0}, {0, -1, 0}, {0, 12, 0}, {0, 0, -1}, {0, 0, 10000}, {1, -1, 0}, {1, 12, 0},
            {1, 0, -1}, {1, 0, 10}, {2, -1, 0}, {2, 2, 0}, {2, 0, -1}, {2, 0, 240}, {3, -1, 0}, {3, 2, 0}, {3, 0, -1},
            {3, 0, 10}, {4, -1, 0}, {4, 2, 0}, {4, 0, -1}, {4, 0, 10}, {5, 0, 11}, {5, 0, 241}, {5, 0, -120}};
        for (int[] b : bad) due("set(" + b[0] + ", " + b[1] + ", " + b[2] + ")", x.set(b[0], b[1], b[2]), BAD);
        for (int w : WILD) {
            due("set(w, 0, 0)", x.set(w, 0, 0), BAD);
            for (int k = 0; k < 5; k++) due("set(" + k + ", w, 0)", x.set(k, w, 0), BAD);
            for (int k = 0; k < 6; k++) due("set(" + k + ", 0, w)", x.set(k, 0, w), BAD);
        }
        same("set refused", before, x);
    }

    private static void p4told() {
        FourFlails x = with(0, 10, 63, 1, 40, 63, 2, 70, 63, 3, 100, 63, 5, 5, 63);
        int[] now = {60, 75, 60, 60, 30};
        for (int m = 0; m < 5; m++) due("STRIKES in ROUND 0", x.told(m, 6), now[m]);
        due("GAP of man 0, behind the last one", x.told(0, 7), 5);
        due("GAP", x.told(1, 7), 30);
        due("GAP modulo THE BAR", x.told(4, 7), 25);
        for (int k = 0; k < 3; k++) x.round();
        int[] later = {60, 75, 57, 57, 28};
        for (int m = 0; m < 5; m++) due("STRIKES in ROUND 3", x.told(m, 6), later[m]);
        for (int m = 0; m < 5; m++) x.set(3, m, 0);
        int[] weak = {0, 15, 0, 0, 0};
        for (int m = 0; m < 5; m++) due("STRIKES of FORCE 0: 0 at least", x.told(m, 6), weak[m]);
        FourFlails k = with(4, 3, 29);
        due("STRIKES of a KEEN", k.told(0, 6), 65);
        due("KIND", k.told(0, 2), 4);
        due("BEAT", k.told(0, 3), 3);
        due("FORCE", k.told(0, 4), 2);
        due("NUMBER", k.told(0, 5), 9);
        due("GAP of one MAN", k.told(0, 7), 120);
        due("told(11, 0)", k.told(11, 0), 1000);
        due("told(11, 1)", k.told(11, 1), 2);
        int[][] bad = {{-1, 0}, {12, 0}, {-1, 1}, {12, 1}, {-1, 2}, {1, 2}, {1, 3}, {1, 4}, {1, 5}, {1, 6}, {1, 7}, {0, -1}, {0, 8}};
        for (int[] b : bad) due("told(" + b[0] + ", " + b[1] + ")", k.told(b[0], b[1]), BAD);
        for (int w : WILD) {
            due("told(0, w)", k.told(0, w), BAD);
            for (int what = 0; what < 8; what++) due("told(w, " + what + ")", k.told(w, what), BAD);
        }
    }

    private static void p5mends() {
        int[] errors = {9, -9, 0, 13, -13, 240, -240, 1, -1};
        int[][] want = {
            {4, -4, 0, 6, -6, 120, -120, 0, 0},
            {2, -2, 0, 3, -3, 60, -60, 0, 0},
            {1, -1, 0, 2, -2, 40, -40, 0, 0},
            {-6, -8, -7, -5, -9, 33, -47, -7, -7},
            {7, -7, 0, 10, -10, 180, -180, 1, -1},
            {-6, -8, -7, -5, -9, 33, -47, -7, -7}};
        for (int kind = 0; kind < 6; kind++) {
            FourFlails x = with(kind, 0, 57);
            for (int k = 0; k < errors.length; k++) due("mends of KIND " + kind + " by " + errors[k], x.mends(0, errors[k]), want[kind][k]);
            due("mends(0, 241)", x.mends(0, 241), -100000);
            due("mends(0, -241)", x.mends(0, -241), -100000);
            due("mends(1, 0)", x.mends(1, 0), -100000);
            due("mends(-1, 0)", x.mends(-1, 0), -100000);
            for (int w : WILD) {
                due("mends(w, 0)", x.mends(w, 0), -100000);
                due("mends(0, w)", x.mends(0, w), -100000);
            }
        }
    }

    private static void p6feed() {
        FourFlails x = new FourFlails();
        due("feed(-1)", x.feed(-1), BAD);
        due("feed(256)", x.feed(256), BAD);
        for (int w : WILD) due("feed(w)", x.feed(w), BAD);
        for (int k = 1; k <= 160; k++) due("feed", x.feed(k % 2 == 0 ? 0 : 255), k);
        due("the 161st", x.feed(32), FULL);
        due("BAD ahead of FULL", x.feed(256), BAD);
        due("count(5)", x.count(5), 160);
    }

    private static void p7text() {
        FourFlails x = new FourFlails();
        due("no byte", x.text(), -100);
        due("count(4)", x.count(4), 1);
        feedAll(x, "gives 1;drifts 1;hurts x;");
        due("a FAULT", x.text(), -100 - 23);
        due("THE TAPE is empty then", x.count(5), 0);
        for (int k = 1; k < 6; k++) {
            due("a TEXT", read(x, "gives 1;drifts 1;hurts 1;"), k);
            due("THE TAPE is empty then", x.count(5), 0);
            due("TEXTS", x.count(4), k + 1);
        }
        feedAll(x, "nonsense");
        due("FULL, ahead of the FAULT", x.text(), FULL);
        due("THE TAPE stays", x.count(5), 8);
        due("force(5)", x.force(5), 0);
        StringBuilder whole = new StringBuilder("gives 1;drifts 1;hurts 1");
        while (whole.length() < 159) whole.append(' ');
        due("160 bytes", read(new FourFlails(), whole + ";"), 1);
    }

    private static void p8force() {
        FourFlails x = with(0, 0, 50);
        due("force(1)", x.force(1), BAD);
        due("force(-1)", x.force(-1), BAD);
        for (int w : WILD) due("force(w)", x.force(w), BAD);
        due("force(0)", x.force(0), 0);
        due("text", read(x, "gives 7;drifts 0;hurts 0;"), 1);
        due("a TEXT is no RULE yet", x.run(1, 0), 44);
        due("force(1)", x.force(1), 0);
        due("count(6)", x.count(6), 1);
        due("by it", x.run(1, 0), 7);
        due("force(2)", x.force(2), BAD);
        due("force(0)", x.force(0), 1);
        due("by THE RULE again", x.run(1, 0), 44);
    }

    private static void p9round() {
        FourFlails x = with(0, 0, 50, 0, 60, 30);
        for (int k = 0; k < 6; k++) due("a ROUND on fresh CELLS", x.round(), 68);
        due("told(10, 0)", x.told(10, 0), 956);
        due("told(11, 0)", x.told(11, 0), 976);
        due("on CELLS 0, 1 again", x.round(), 42 + 23);
        due("told(0, 0)", x.told(0, 0), 914);
        due("told(1, 0)", x.told(1, 0), 953);
        due("OUT", x.count(3), 6 * 68 + 65);
        due("THE ROUND", x.count(2), 7);
        due("BEAT", x.told(0, 3), 0);

        FourFlails byThen = with(0, 0, 50, 0, 5, 30);
        due("no KNOCK: the one ahead has mended by then", byThen.round(), 68);
        due("his BEAT: 0 - 27", byThen.told(0, 3), 93);
        due("his BEAT: 5 + 14", byThen.told(1, 3), 19);
        FourFlails knock = with(0, 5, 50, 0, 0, 30);
        due("a KNOCK gets nothing out", knock.round(), 24);
        due("his CELL", knock.told(0, 0), 1000);
        due("a KNOCK mends too: 5 + 27", knock.told(0, 3), 32);
        due("behind it: 0 - 14", knock.told(1, 3), 106);
        due("GAP 7", with(0, 7, 50, 0, 0, 30).run(1, 1), 1);
        due("GAP 8", with(0, 8, 50, 0, 0, 30).run(1, 1), 0);

        FourFlails began = with(0, 0, 50);
        rule(began, "gives 500; drifts ears < 1000; hurts 1;");
        due("round()", began.round(), 500);
        due("drifts is told by EARS ahead of the stroke", began.told(0, 3), 0);
        for (int k = 0; k < 12; k++) began.round();
        due("on CELL 0 again", began.told(0, 3), 1);

        FourFlails bounds = with(0, 0, 50);
        rule(bounds, "gives 5000; drifts 5000; hurts 1;");
        due("gives 1000 at most", bounds.round(), 1000);
        due("drifts 99 at most", bounds.told(0, 3), 99);
        rule(bounds, "gives -5000; drifts -5000; hurts 1;");
        due("gives 0 at least", bounds.round(), 0);
        due("drifts -99 at least", bounds.told(0, 3), 0);
        due("all EARS of one CELL", bounds.told(0, 0), 0);

        FourFlails nobody = new FourFlails();
        due("nobody", nobody.round(), 0);
        due("THE ROUND is 1 more", nobody.count(2), 1);
    }

    private static void p10run() {
        FourFlails x = with(0, 0, 50, 0, 60, 30);
        String before = state(x);
        due("run(0, 0)", x.run(0, 0), 0);
        due("run(0, 3)", x.run(0, 3), 12000);
        due("run(6, 0)", x.run(6, 0), 408);
        due("run(7, 0)", x.run(7, 0), 473);
        due("run(7, 3)", x.run(7, 3), 12000 - 473);
        due("run(40, 1)", x.run(40, 1), 0);
        due("run(40, 2)", x.run(40, 2), 0);
        same("run", before, x);
        x.round();
        due("from now on", x.run(6, 0), 5 * 68 + 65);
        int[][] bad = {{-1, 0}, {41, 0}, {0, -1}, {0, 4}};
        for (int[] b : bad) due("run(" + b[0] + ", " + b[1] + ")", x.run(b[0], b[1]), BAD);
        for (int w : WILD) {
            due("run(w, 0)", x.run(w, 0), BAD);
            due("run(0, w)", x.run(0, w), BAD);
        }
        FourFlails close = with(0, 0, 50, 0, 6, 30);
        close.set(5, 0, 12);
        due("KNOCKS of both", close.run(40, 1), 80);
        due("both are HIT", close.run(1, 2), 3);
        due("nothing comes OUT", close.run(40, 0), 0);
        rule(close, "gives 1; drifts 0; hurts force = 30;");
        due("man 1 alone is HIT", close.run(3, 2), 2);
        rule(close, "gives 1; drifts 0; hurts 0 - 5;");
        due("what is not 0 is true", close.run(3, 2), 3);
        rule(close, "gives 1; drifts 0; hurts 0;");
        due("nobody is HIT", close.run(3, 2), 0);
        due("KNOCKS all the same", close.run(3, 1), 6);
    }

    private static void p11beat() {
        FourFlails x = with(0, 0, 53);
        for (int n = 0; n <= 40; n++) due("beat(0, " + n + ")", x.beat(0, n), 3 * n % 120);
        due("truly", x.told(0, 3), 0);
        due("beat(1, 0)", x.beat(1, 0), BAD);
        due("beat(-1, 0)", x.beat(-1, 0), BAD);
        due("beat(0, -1)", x.beat(0, -1), BAD);
        due("beat(0, 41)", x.beat(0, 41), BAD);
        for (int w : WILD) {
            due("beat(w, 0)", x.beat(w, 0), BAD);
            due("beat(0, w)", x.beat(0, w), BAD);
        }
        FourFlails two = with(0, 5, 50, 0, 0, 30);
        due("beat(0, 1)", two.beat(0, 1), 32);
        due("beat(1, 1)", two.beat(1, 1), 106);
    }

    private static void p12holds() {
        due("nobody", new FourFlails().holds(), 40);
        due("one MAN", with(0, 0, 50).holds(), 40);
        due("at once", with(0, 5, 50, 0, 0, 30).holds(), 0);
        FourFlails x = with(0, 0, 50, 0, 60, 30);
        rule(x, "gives 1; drifts 99 * (round = 5); hurts 0;");
        due("while nobody drifts apart from the other", x.holds(), 40);
        rule(x, "gives 1; drifts 58 * (round = 5) * (force = 50); hurts 0;");
        due("a KNOCK in ROUND 5", x.holds(), 5);
        due("five ROUNDS have none", x.run(5, 1), 0);
        due("six have one", x.run(6, 1) > 0 ? 1 : 0, 1);
        x.round();
        due("from now on", x.holds(), 4);
    }

    private static void p13bar() {
        FourFlails x = with(0, 0, 50);
        due("bar(0)", x.bar(0), 12);
        due("bar(1): 528 * 1000 / 144", x.bar(1), 3666);
        due("THE BAR is as it was", x.count(1), 120);
        x.round();
        due("what came OUT ahead does not count: (11 * 44 + 42) * 1000 / 144", x.bar(1), 3652);
        due("nobody", new FourFlails().bar(0), 12);
        due("nobody", new FourFlails().bar(1), 0);
        FourFlails two = with(0, 0, 50, 0, 8, 50);
        rule(two, "gives 100 * (gap = 8); drifts 0; hurts 0;");
        two.set(5, 0, 16);
        due("BEATS 0, 8 held by 16", two.bar(0), 16);
        due("12 * 2 strokes at 16, twelve of them on CELLS struck before", two.bar(1), (1200 + 1080) * 1000 / 192);
        rule(x, "gives 1000 * (gap = 240); drifts 0; hurts 0;");
        due("the longest", x.bar(0), 240);
        due("11 whole CELLS and what a ROUND left of one", x.bar(1), 11956 * 1000 / 2880);
        due("bar(-1)", x.bar(-1), BAD);
        due("bar(2)", x.bar(2), BAD);
        for (int w : WILD) due("bar(w)", x.bar(w), BAD);
    }

    private static void p14order() {
        FourFlails x = with(0, 5, 50, 0, 0, 30);
        due("as they are there is a KNOCK", x.run(12, 1) > 0 ? 1 : 0, 1);
        due("order(NONE)", x.order(NONE), 0);
        due("order(0)", x.order(0), 1);
        due("order(1)", x.order(1), 0);
        due("order(2)", x.order(2), BAD);
        due("order(-2)", x.order(-2), BAD);
        for (int w : WILD) due("order(w)", x.order(w), BAD);
        due("told(0, 3): the ring is as it was", x.told(0, 3), 5);

        FourFlails most = with(0, 0, 10, 0, 60, 90);
        for (int c = 0; c < 12; c++) most.set(0, c, c % 2 == 0 ? 2000 : 0);
        due("most comes OUT if the harder strikes on even CELLS", most.order(0), 1);
        due("order(1)", most.order(1), 0);

        FourFlails like = with(0, 0, 50, 0, 24, 50, 0, 48, 50, 0, 72, 50, 0, 96, 50);
        for (int k = 0; k < 5; k++) due("of like ones the first as a row", like.order(k), k);
        due("order(5)", like.order(5), BAD);
        due("nobody", new FourFlails().order(NONE), 0);
        due("nobody", new FourFlails().order(0), BAD);
    }

    private static void p15home() {
        due("nobody", new FourFlails().home(), NONE);
        due("one MAN", with(0, 0, 50).home(), NONE);
        due("one MAN who gets nothing out", with(0, 0, 0).home(), NONE);
        FourFlails x = with(0, 0, 50, 0, 6, 50);
        x.set(5, 0, 12);
        due("both knock: of like ones the first", x.home(), 0);
        x.set(3, 0, 6);
        due("the harder stays", x.home(), 1);
        due("nobody truly goes", x.count(0), 2);
        x.set(3, 0, 0);
        x.set(3, 1, 0);
        due("no more than with all", x.home(), NONE);
        due("they do well", with(0, 0, 50, 0, 60, 30).home(), NONE);
    }

    private static void p16turn() {
        FourFlails x = new FourFlails();
        for (int c = 0; c < 12; c++) x.set(0, c, 100 * c);
        x.set(1, 0, 9);
        x.set(1, 5, 0);
        due("all WET then: 8 + 10 + 0", x.turn(), 18);
        for (int c = 0; c < 12; c++) due("EARS", x.told(c, 0), 100 * (11 - c));
        due("WET of CELL 0 stays its own", x.told(0, 1), 8);
        due("WET of CELL 11", x.told(11, 1), 1);
        due("0 at least", x.told(5, 1), 0);
        due("turn()", x.turn(), 7);
        due("EARS are as they were", x.told(3, 0), 300);
        due("THE ROUND", x.count(2), 0);
    }

    private static void p17when() {
        due("nobody", new FourFlails().when(), NONE);
        due("drier straw gives more", with(0, 0, 50).when(), 0);
        FourFlails x = with(0, 0, 50);
        for (int c = 6; c < 12; c++) x.set(0, c, 0);
        due("behind the last full CELL", x.when(), 6);
        due("nothing is truly TURNED", x.told(0, 1), 2);
        for (int c = 0; c < 12; c++) {
            x.set(0, c, 1000);
            x.set(1, c, 0);
        }
        due("no more than if it isn't", x.when(), NONE);
        FourFlails last = with(0, 0, 50);
        rule(last, "gives 1000 * (round = 11) ; drifts 0; hurts 0;");
        last.set(0, 0, 5000);
        due("of like ones the first", last.when(), 0);
        rule(last, "gives 1000 * (round = 11 or round = 10) ; drifts 0; hurts 0;");
        last.set(0, 0, 0);
        last.set(0, 10, 5000);
        last.set(0, 11, 0);
        due("no more", last.when(), NONE);
        last.set(0, 0, 9);
        due("ahead of the last ROUND", last.when(), 11);
    }

    private static void p18stop() {
        FourFlails x = with(0, 0, 50);
        int[][] want = {{0, NONE}, {38, NONE}, {39, 36}, {40, 36}, {41, 24}, {42, 24}, {43, 12}, {44, 12}, {45, 0}, {99999, 0}};
        for (int[] w : want) due("stop(" + w[0] + ")", x.stop(w[0]), w[1]);
        x.round();
        due("from now on", x.stop(44), 11);
        due("nobody", new FourFlails().stop(1), 0);
        due("nobody", new FourFlails().stop(0), NONE);
        due("stop(-1)", x.stop(-1), BAD);
        due("stop(100000)", x.stop(100000), BAD);
        for (int w : WILD) due("stop(w)", x.stop(w), BAD);
    }

    private static void p19fewest() {
        FourFlails x = with(0, 0, 50, 0, 60, 50);
        due("fewest(0)", x.fewest(0), 1);
        due("fewest(528)", x.fewest(528), 1);
        due("fewest(529)", x.fewest(529), 2);
        due("fewest(1032)", x.fewest(1032), 2);
        due("fewest(1033)", x.fewest(1033), NONE);
        due("fewest(999999)", x.fewest(999999), NONE);
        due("all stay", x.count(0), 2);
        due("nobody", new FourFlails().fewest(0), NONE);
        due("fewest(-1)", x.fewest(-1), BAD);
        due("fewest(1000000)", x.fewest(1000000), BAD);
        for (int w : WILD) due("fewest(w)", x.fewest(w), BAD);
        FourFlails weak = with(0, 0, 0, 0, 60, 50);
        due("the first alone gets nothing out", weak.fewest(1), 2);
    }

    private static void p20judge() {
        FourFlails x = with(0, 0, 53);
        for (int sort = 0; sort < 3; sort++) {
            x.sheet(0, sort, 4);
            for (int k = 0; k < 4; k++) x.cell(0, k, 3 * (k + 1));
            due("all as told", x.judge(0, 0), NONE);
            x.cell(0, 3, 13);
            due("the last is otherwise", x.judge(0, 0), 3);
            x.cell(0, 1, 0);
            due("the first that is otherwise", x.judge(0, 0), 1);
            x.cell(0, 0, 0);
            due("the BEAT as ROUND 0 ends", x.judge(0, 0), 0);
        }
        x.sheet(1, 0, 0);
        due("no item", x.judge(0, 1), NONE);
        due("-11", x.judge(0, 2), -11);
        due("judge(1, 0)", x.judge(1, 0), BAD);
        due("judge(-1, 0)", x.judge(-1, 0), BAD);
        due("judge(0, 4)", x.judge(0, 4), BAD);
        due("judge(0, -1)", x.judge(0, -1), BAD);
        due("BAD ahead of -11", x.judge(1, 2), BAD);
        for (int w : WILD) {
            due("judge(w, 0)", x.judge(w, 0), BAD);
            due("judge(0, w)", x.judge(0, w), BAD);
        }
        FourFlails late = new FourFlails();
        late.set(5, 0, 240);
        late.man(0, 130, 50);
        late.sheet(0, 0, 1);
        late.cell(0, 0, 130);
        due("bytes have their sign", late.judge(0, 0), 0);
        late.sheet(0, 1, 1);
        late.cell(0, 0, 130);
        due("shorts hold it", late.judge(0, 0), NONE);
        late.cell(0, 0, 130 + 65536);
        due("their lowest 16 bits", late.judge(0, 0), NONE);
        late.sheet(0, 2, 1);
        late.cell(0, 0, 130 + 65536);
        due("ints are whole", late.judge(0, 0), 0);
    }

    private static void p21slow() {
        FourFlails x = with(0, 0, 50);
        due("slow(0)", x.slow(0), 528);
        due("his FORCE stays", x.told(0, 4), 5);
        due("slow(1)", x.slow(1), -100000);
        due("slow(-1)", x.slow(-1), -100000);
        for (int w : WILD) due("slow(w)", x.slow(w), -100000);
        FourFlails two = with(0, 0, 50, 0, 60, 30);
        due("slow(0): 6 * 44 + 6 * 42", two.slow(0), 516);
        due("slow(1): 6 * 24 + 6 * 23", two.slow(1), 282);
        FourFlails none = with(0, 0, 0);
        due("FORCE 0 already", none.slow(0), 0);
        rule(none, "gives 10 - force; drifts 0; hurts 0;");
        none.set(3, 0, 1);
        due("below 0", none.slow(0), -120);
    }

    private static int drawnFirst(int seed) {
        int z = (int) (seed * 1103515245L + 12345L);
        return (z >>> 9) % 7 - 3;
    }

    private static void p22drawn() {
        FourFlails x = with(0, 0, 51, 0, 60, 50);
        rule(x, "gives 1; drifts tired * 52; hurts 1;");
        due("none is drawn: man 1 has GAP 8", x.run(1, 1), 0);
        int[] seeds = {0, 1, 2, 3, 5, 7, 12, 77, -1, -77, 4096, Integer.MAX_VALUE, Integer.MIN_VALUE};
        boolean[] seen = new boolean[2];
        for (int s : seeds) {
            int want = drawnFirst(s) > 0 ? 1 : 0;
            seen[want] = true;
            due("drawn(" + s + ", 1)", x.drawn(s, 1), want);
        }
        due("the seeds try both", seen[0] && seen[1] ? 1 : 0, 1);
        due("a trial behind it draws no more", x.run(1, 1), 0);

        FourFlails bound = new FourFlails();
        bound.set(5, 0, 124);
        bound.man(2, 0, 51);
        bound.man(0, 116, 50);
        rule(bound, "gives 1; drifts tired * 9999; hurts 1;");
        due("man 1 has GAP 8", bound.run(1, 1), 0);
        for (int s : seeds) due("what is drawn comes on top of the bound", bound.drawn(s, 1), drawnFirst(s) > 0 ? 1 : 0);

        due("drawn(1, 0)", x.drawn(1, 0), 0);
        due("nobody", new FourFlails().drawn(1, 40), 0);
        due("drawn(1, -1)", x.drawn(1, -1), BAD);
        due("drawn(1, 41)", x.drawn(1, 41), BAD);
        for (int w : WILD) due("drawn(1, w)", x.drawn(1, w), BAD);
    }

    private static void p23once() {
        FourFlails x = with(0, 0, 50, 0, 60, 30);
        due("once(4, 0): 1000 - 44 - 22", x.once(4, 0), 934);
        due("once(4, 1)", x.once(4, 1), 66);
        x.set(0, 4, 0);
        due("no EARS", x.once(4, 0), 0);
        due("no EARS", x.once(4, 1), 0);
        x.set(0, 4, 9999);
        x.set(1, 4, 0);
        due("9999 - 499 - 285", x.once(4, 0), 9215);
        due("truly none goes", x.told(4, 0), 9999);
        FourFlails close = with(0, 0, 50, 0, 0, 30);
        due("there are no KNOCKS", close.once(0, 1), 66);
        FourFlails gaps = with(0, 10, 50, 0, 50, 30);
        rule(gaps, "gives gap * 10; drifts 99; hurts 1;");
        due("GAPS 80 and 40 as they are now: 800 + 80", gaps.once(0, 1), 880);
        due("nobody", new FourFlails().once(0, 0), 1000);
        due("nobody", new FourFlails().once(0, 1), 0);
        int[][] bad = {{-1, 0}, {12, 0}, {0, -1}, {0, 2}};
        for (int[] b : bad) due("once(" + b[0] + ", " + b[1] + ")", x.once(b[0], b[1]), -4611686018427387904L);
        for (int w : WILD) {
            due("once(w, 0)", x.once(w, 0), -4611686018427387904L);
            due("once(0, w)", x.once(0, w), -4611686018427387904L);
        }
    }

    private static void p24image() {
        FourFlails x = with(0, 0, 50);
        due("image()", x.image(), 0);
        x.round();
        x.round();
        due("image()", x.image(), 2);
        x.round();
        due("the newer one", x.back(), 2);
        due("OUT then", x.count(3), 88);
    }

    private static void p25back() {
        FourFlails x = with(0, 0, 53, 1, 60, 31);
        due("there is none", x.back(), STATE);
        x.round();
        x.image();
        String before = state(x);
        for (int k = 0; k < 3; k++) {
            x.round();
            x.turn();
            x.set(0, 0, 5);
            x.set(1, 0, 9);
            x.set(2, 0, 77);
            x.set(3, 0, 1);
            x.set(4, 0, 1);
            x.set(5, 0, 33);
            due("MEN that came", x.man(4, 8, 11), 2);
            due("back()", x.back(), 1);
            same("all there and back", before, x);
        }
        due("a man of another KIND comes", x.man(2, 8, 11), 2);
        due("his KIND", x.told(2, 2), 2);
        due("a TEXT", read(x, "gives 1; drifts 1; hurts 1;"), 1);
        x.force(1);
        x.feed(65);
        x.sheet(0, 2, 1);
        due("back()", x.back(), 1);
        due("THE RULE is kept", x.count(6), 0);
        due("TEXTS stay", x.count(4), 2);
        due("THE TAPE stays", x.count(5), 1);
        due("SHEETS stay", x.cell(0, 0, 5), 1);
        due("the man is gone", x.told(2, 2), BAD);
    }

    private static void p26count() {
        FourFlails x = with(0, 0, 50, 0, 60, 30);
        read(x, "gives 1; drifts 1; hurts 1;");
        x.round();
        x.force(1);
        x.set(5, 0, 77);
        x.feed(1);
        x.feed(2);
        x.feed(3);
        int[] want = {2, 77, 1, 68, 2, 3, 1};
        for (int k = 0; k < 7; k++) due("count(" + k + ")", x.count(k), want[k]);
        due("count(-1)", x.count(-1), BAD);
        due("count(7)", x.count(7), BAD);
        for (int w : WILD) due("count(w)", x.count(w), BAD);
    }

    private static void p27sheet() {
        FourFlails x = with(0, 0, 50);
        due("sheet(0, 2, 40)", x.sheet(0, 2, 40), 1);
        due("cell(0, 39, 1)", x.cell(0, 39, 1), 1);
        due("cell(0, 40, 1)", x.cell(0, 40, 1), -12);
        due("sheet(0, 2, 41)", x.sheet(0, 2, 41), BAD);
        due("sheet(0, 2, -1)", x.sheet(0, 2, -1), -14);
        due("sheet(0, 3, -1)", x.sheet(0, 3, -1), BAD);
        due("sheet(0, -2, 1)", x.sheet(0, -2, 1), BAD);
        due("sheet(4, 0, -1)", x.sheet(4, 0, -1), BAD);
        due("sheet(-1, 0, 1)", x.sheet(-1, 0, 1), BAD);
        due("sheet(4, -1, 1)", x.sheet(4, -1, 1), BAD);
        due("refused: it stays", x.cell(0, 39, 1), 1);
        due("sheet(0, 1, MIN)", x.sheet(0, 1, Integer.MIN_VALUE), -14);
        due("sheet(0, 1, MAX)", x.sheet(0, 1, Integer.MAX_VALUE), BAD);
        x.cell(0, 0, 7);
        due("sheet(0, 2, 3)", x.sheet(0, 2, 3), 1);
        due("all 0: a man", x.men(0, 2, 0, 1), 1);
        due("of KIND 0", x.told(1, 2), 0);
        due("missing, n does not matter", x.sheet(0, -1, 99), 1);
        due("cell", x.cell(0, 0, 0), -11);
        due("missing again", x.sheet(0, -1, Integer.MIN_VALUE), 1);
        due("sheet(3, 0, 0)", x.sheet(3, 0, 0), 1);
        due("cell(3, 0, 0)", x.cell(3, 0, 0), -12);
        for (int w : WILD) {
            due("sheet(w, 0, 0)", x.sheet(w, 0, 0), BAD);
            due("sheet(0, w, 0)", x.sheet(0, w, 0), BAD);
        }
    }

    /** The sign and size that an item has, seen by judging a man whose BEAT is told. */
    private static boolean holds(int sort, int v, int beat) {
        FourFlails x = new FourFlails();
        x.set(5, 0, 240);
        x.man(0, beat, 50);
        x.sheet(2, sort, 1);
        x.cell(2, 0, v);
        return x.judge(0, 2) == NONE;
    }

    private static void p28cell() {
        FourFlails x = new FourFlails();
        due("-11", x.cell(0, 0, 0), -11);
        x.sheet(0, 0, 2);
        due("cell(0, 0, MIN)", x.cell(0, 0, Integer.MIN_VALUE), 1);
        due("cell(0, 1, MAX)", x.cell(0, 1, Integer.MAX_VALUE), 1);
        due("cell(0, 2, 0)", x.cell(0, 2, 0), -12);
        due("cell(0, -1, 0)", x.cell(0, -1, 0), -12);
        due("cell(4, 0, 0)", x.cell(4, 0, 0), BAD);
        due("cell(-1, 0, 0)", x.cell(-1, 0, 0), BAD);
        for (int w : WILD) {
            due("cell(w, 0, 0)", x.cell(w, 0, 0), BAD);
            due("cell(0, w, 0)", x.cell(0, w, 0), -12);
        }
        due("lowest 8 bits", holds(0, 256 + 100, 100) ? 1 : 0, 1);
        due("lowest 8 bits, below 0", holds(0, -256 + 100, 100) ? 1 : 0, 1);
        due("bytes: 127", holds(0, 127, 127) ? 1 : 0, 1);
        due("bytes: 128 is below 0", holds(0, 128, 128) ? 1 : 0, 0);
        due("lowest 16 bits", holds(1, 65536 + 200, 200) ? 1 : 0, 1);
        due("shorts: not 8 alone", holds(1, 256 + 100, 100) ? 1 : 0, 0);
        due("ints: all", holds(2, 65536 + 200, 200) ? 1 : 0, 0);
    }

    /** The items of a sheet of ints (each 0 .. 8; 9 if none of these), found by judging man 0, whose BEAT stays as it is set. */
    private static String items(FourFlails x, int sheet, int n) {
        StringBuilder s = new StringBuilder();
        x.sheet(3, 2, 1);
        for (int k = 0; k < n; k++) {
            x.copy(sheet, k, 3, 0, 1);
            int b = 0;
            x.set(2, 0, b);
            while (b < 9 && x.judge(0, 3) != NONE) {
                b++;
                x.set(2, 0, b);
            }
            s.append(b);
        }
        return s.toString();
    }

    private static void p29copy() {
        FourFlails x = with(0, 0, 50);
        x.sheet(0, 2, 6);
        for (int k = 0; k < 6; k++) x.cell(0, k, k + 1);
        due("onto itself, behind", x.copy(0, 0, 0, 2, 4), 4);
        due("as they were: " + items(x, 0, 6), items(x, 0, 6).equals("121234") ? 1 : 0, 1);
        due("onto itself, ahead", x.copy(0, 2, 0, 0, 4), 4);
        due("as they were: " + items(x, 0, 6), items(x, 0, 6).equals("123434") ? 1 : 0, 1);
        x.sheet(1, 2, 3);
        due("to another", x.copy(0, 3, 1, 0, 3), 3);
        due("there: " + items(x, 1, 3), items(x, 1, 3).equals("434") ? 1 : 0, 1);
        due("none at its end", x.copy(0, 6, 1, 3, 0), 0);
        due("none behind its end", x.copy(0, 7, 1, 0, 0), -12);
        due("none behind its end", x.copy(0, 0, 1, 4, 0), -12);
        due("too many there", x.copy(0, 0, 1, 0, 4), -12);
        due("too many here", x.copy(0, 4, 1, 0, 3), -12);
        due("n below 0", x.copy(0, 0, 1, 0, -1), -12);
        due("i below 0", x.copy(0, -1, 1, 0, 1), -12);
        due("j below 0", x.copy(0, 0, 1, -1, 1), -12);
        x.sheet(2, 1, 3);
        due("unlike sorts", x.copy(0, 0, 2, 0, 1), -13);
        due("-13 ahead of -12", x.copy(0, -1, 2, 0, -1), -13);
        x.sheet(2, -1, 0);
        due("missing there", x.copy(0, -1, 2, 0, 1), -11);
        due("missing here", x.copy(2, 0, 0, 0, 1), -11);
        due("BAD ahead of -11", x.copy(2, 0, 4, 0, 1), BAD);
        due("BAD ahead of -11", x.copy(4, 0, 2, 0, 1), BAD);
        due("BAD", x.copy(-1, 0, 0, 0, 1), BAD);
        due("BAD", x.copy(0, 0, -1, 0, 1), BAD);
        for (int w : WILD) {
            due("copy(w, ..)", x.copy(w, 0, 0, 0, 0), BAD);
            due("copy(.., w, ..)", x.copy(0, 0, w, 0, 0), BAD);
            due("i wild", x.copy(0, w, 1, 0, 1), -12);
            due("j wild", x.copy(0, 0, 1, w, 1), -12);
            due("n wild", x.copy(0, 1, 1, 1, w), -12);
            for (int v : WILD) due("i, n wild", x.copy(0, w, 1, 0, v), -12);
        }
        due("refused: " + items(x, 1, 3), items(x, 1, 3).equals("434") ? 1 : 0, 1);
    }

    private static void fill(FourFlails x, int sheet, int sort, int... v) {
        x.sheet(sheet, sort, v.length);
        for (int k = 0; k < v.length; k++) x.cell(sheet, k, v[k]);
    }

    private static void p30men() {
        FourFlails x = new FourFlails();
        fill(x, 0, 2, 9, 1, 100, 42, 6, 0, 0, 2, 240, 0, 3, 20, 99, 4);
        due("men(0, 2, 1, 4): the first and the last", x.men(0, 2, 1, 4), 2);
        due("KIND", x.told(0, 2), 1);
        due("BEAT", x.told(0, 3), 100);
        due("FORCE", x.told(0, 4), 4);
        due("NUMBER", x.told(0, 5), 2);
        due("KIND", x.told(1, 2), 3);
        due("what stood ahead came", x.men(0, 2, 1, 5), -12);
        due("count(0)", x.count(0), 4);
        due("n 0", x.men(0, 2, 0, 0), 0);
        due("n 0, from anywhere", x.men(0, 2, -5, 0), 0);
        due("from below 0", x.men(0, 2, -1, 1), -12);
        due("from the last two", x.men(0, 2, 12, 1), -12);
        due("FULL: others are left out", x.men(0, 2, 1, 4), 1);
        due("count(0)", x.count(0), 5);
        due("FULL, and then outside", x.men(0, 2, 1, 5), -12);
        due("another sort", x.men(0, 1, 1, 1), -13);
        due("-13 ahead of -12", x.men(0, 0, -9, 1), -13);
        due("missing", x.men(1, 2, 0, 1), -11);
        due("missing, n 0", x.men(1, 0, 0, 0), -11);
        int[][] bad = {{-1, 0, 0, 0}, {4, 0, 0, 0}, {1, -1, 0, 0}, {1, 3, 0, 0}, {1, 0, 0, -1}, {1, 0, 0, 6}};
        for (int[] b : bad) due("BAD ahead of -11", x.men(b[0], b[1], b[2], b[3]), BAD);
        for (int w : WILD) {
            due("men(w, ..)", x.men(w, 2, 0, 0), BAD);
            due("sort wild", x.men(0, w, 0, 0), BAD);
            due("from wild", x.men(0, 2, w, 5), -12);
            due("n wild", x.men(0, 2, 0, w), BAD);
        }
        FourFlails y = new FourFlails();
        fill(y, 0, 0, 0, 100, 42, 0, 200, 42);
        due("a BEAT of 200 is none as a byte", y.men(0, 0, 0, 2), 1);
        fill(y, 1, 1, 0, 200, 42);
        due("but one as a short", y.men(1, 1, 0, 1), 1);
        due("held by THE BAR", y.told(1, 3), 80);
    }

    private static void p31taken() {
        int[][] under = {{0}, {1, 0}, {2, 0}, {3, 2, 0}, {4, 1, 0}, {5, 3, 2, 0}};
        for (int kind = 0; kind < 6; kind++) {
            FourFlails x = with(0, 0, 11, kind, 0, 70 + kind);
            for (int k = 0; k < 6; k++) {
                boolean is = false;
                for (int u : under[kind]) is |= u == k;
                due("KIND " + kind + " taken for " + k, x.taken(1, k), is ? 7 : -13);
            }
        }
        FourFlails x = with(0, 0, 50);
        due("taken(1, 0)", x.taken(1, 0), -11);
        due("taken(-1, 0)", x.taken(-1, 0), -11);
        due("taken(0, -1)", x.taken(0, -1), BAD);
        due("taken(0, 6)", x.taken(0, 6), BAD);
        due("BAD ahead of -11", x.taken(9, 6), BAD);
        for (int w : WILD) {
            due("taken(w, 0)", x.taken(w, 0), -11);
            due("taken(0, w)", x.taken(0, w), BAD);
        }
    }

    private static void all() {
        promise = 1; p1newObject();
        promise = 2; p2man();
        promise = 3; p3set();
        promise = 4; p4told();
        promise = 5; p5mends();
        promise = 6; p6feed();
        promise = 7; p7text();
        promise = 8; p8force();
        promise = 9; p9round();
        promise = 10; p10run();
        promise = 11; p11beat();
        promise = 12; p12holds();
        promise = 13; p13bar();
        promise = 14; p14order();
        promise = 15; p15home();
        promise = 16; p16turn();
        promise = 17; p17when();
        promise = 18; p18stop();
        promise = 19; p19fewest();
        promise = 20; p20judge();
        promise = 21; p21slow();
        promise = 22; p22drawn();
        promise = 23; p23once();
        promise = 24; p24image();
        promise = 25; p25back();
        promise = 26; p26count();
        promise = 27; p27sheet();
        promise = 28; p28cell();
        promise = 29; p29copy();
        promise = 30; p30men();
        promise = 31; p31taken();
    }

    public static void main(String[] args) {
        all();
        System.out.println(wrong == 0 ? asked + " answers are as due" : wrong + " answers are not as due");
        if (wrong != 0) System.exit(1);
    }
}
