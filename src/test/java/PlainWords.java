import java.io.IOException;
import java.lang.reflect.Method;
import java.lang.reflect.Modifier;
import java.nio.charset.StandardCharsets;
import java.nio.file.Files;
import java.nio.file.Path;
import java.util.ArrayList;
import java.util.List;
import java.util.Set;
import java.util.TreeSet;

/** The sentences that name no edge: what the class is, its face, what refusals mean, what a round is, and the headings. */
final class PlainWords {
    private PlainWords() { }

    static void all(String source) {
        String program = read(source);
        strikeByTurns();
        rounds();
        whatWouldBeBest();
        judgedAndLaidBack();
        face(program);
        refusals();
        strikes();
        mends();
        aRound();
        headings(program);
        signatures(program);
        notPromised();
    }

    private static String read(String source) {
        try {
            return Files.readString(Path.of(source), StandardCharsets.UTF_8);
        } catch (IOException e) {
            throw new IllegalStateException("the source can't be read", e);
        }
    }

    // ---- what it is

    private static void strikeByTurns() {
        Sentences.sentence("Four flails: men in a ring who strike by turns on a floor of sheaves;");
        Hand two = Hand.with(0, 0, 50, 0, 60, 50).due("told(0, 7)", 60).due("told(1, 7)", 60);
        two.due("round()", 88).dueFrom("told(%, 0)", 0, 956, 956, 1000, 1000, 1000);
        two.due("round()", 88).dueFrom("told(%, 0)", 0, 956, 956, 956, 956, 1000).due("count(3)", 176);

        Sentences.sentence("each mends his beat by ear after the one ahead, of kinds, tires, drifts by a rule of texts;");
        // GAPS 70 and, behind BEAT 115, 55: ERRORS 10 and -5, of which a MAN mends 5 and -2
        Hand.with(0, 0, 50, 0, 50, 50).due("beat(0, 1)", 115).due("beat(1, 1)", 52).due("round()", 88).due("told(0, 3)", 115).due("told(1, 3)", 52);
        // STRONG ones mend half of that: GAPS 70 and, behind BEAT 118, 52: 2 and -2
        Hand.with(1, 0, 50, 1, 50, 50).due("told(0, 2)", 1).due("beat(0, 1)", 118).due("beat(1, 1)", 52);
        Hand.with(2, 0, 50).due("told(0, 6)", 50).calls("round()").due("told(0, 6)", 49).calls("round()").due("told(0, 6)", 48);
        Hand.with(0, 10, 50).ruled("1", "3 + 4 * round", "1").due("beat(0, 1)", 13).due("beat(0, 2)", 20).due("beat(0, 3)", 31);
    }

    private static void rounds() {
        Sentences.sentence("where a stroke falls, how much it gets out, who strikes on another's; rounds gone through, by which nobody was hit;");
        Hand.with(0, 0, 50).due("round()", 44).due("told(0, 0)", 956).due("round()", 44).due("told(1, 0)", 956).due("told(2, 0)", 1000).due("count(3)", 88);
        Hand close = Hand.with(0, 5, 50, 0, 0, 50).asked("run(1, 1)", 1).asked("run(1, 2)", 1).asked("run(1, 0)", 44).asked("run(1, 3)", 11956);
        // man 0 has mended to BEAT 32 by then, man 1 (GAP 88, ERROR 28) to 106; so nobody knocks in the next round
        close.due("holds()", 0).due("beat(0, 1)", 32).due("beat(1, 1)", 106).due("run(2, 1)", 1).due("count(2)", 0).due("told(0, 3)", 5).due("told(1, 0)", 1000);
        close.due("round()", 44).due("told(0, 0)", 1000).due("told(1, 0)", 956).due("told(0, 3)", 32).due("run(1, 1)", 0).due("run(1, 2)", 0);
    }

    private static void whatWouldBeBest() {
        Sentences.sentence("the beat, the order of the ring, how many men, whom to send home, when to turn the straw, when to stop;");
        // 12 strokes of 44 on 12 cells; round 12 strikes what is left of the first
        Hand one = Hand.with(0, 0, 50).asked("bar(0)", 12).asked("bar(1)", 528 * 1000 / 144).asked("order(0)", 0).asked("home()", Hand.NONE);
        one.asked("when()", 0).asked("stop(45)", 0).asked("stop(44)", 12).asked("stop(43)", 12).asked("stop(42)", 24);
        Hand two = Hand.with(0, 0, 50, 0, 60, 50).asked("fewest(528)", 1).asked("fewest(529)", 2).asked("fewest(1032)", 2).asked("fewest(1033)", Hand.NONE);
        two.asked("order(-1)", 0).asked("order(0)", 0).asked("order(1)", 1).asked("home()", Hand.NONE).asked("stop(88)", 6).asked("stop(89)", 0);
        two.due("turn()", 12).due("round()", 94).asked("when()", 0).due("turn()", 0).asked("when()", Hand.NONE);
    }

    private static void judgedAndLaidBack() {
        Sentences.sentence("a hand's notes of beats, judged; what is left for him who is paid by the day; rounds that are drawn; all laid back.");
        Hand x = Hand.with(0, 0, 53).calls("sheet(2, 1, 3)", "cell(2, 0, 3)", "cell(2, 1, 6)", "cell(2, 2, 8)").asked("judge(0, 2)", 2);
        x.calls("cell(2, 2, 9)").asked("judge(0, 2)", Hand.NONE).calls("cell(2, 1, 5)").asked("judge(0, 2)", 1);
        x.asked("slow(0)", 528).calls("set(3, 0, 2)").asked("slow(0)", 12 * 14);
        // man 0 comes to 5 ahead of man 1; by SEED 7 he is drawn 3 back from there, by SEED 1 3 nearer
        Hand drawn = Hand.with(0, 0, 51, 0, 60, 50).ruled("1", "tired * 55", "1").due("run(1, 1)", 1).asked("drawn(7, 1)", 0).asked("drawn(1, 1)", 1);
        drawn.due("image()", 0).calls("round()", "turn()", "man(0, 0, 50)").due("back()", 0).due("count(0)", 2).due("count(3)", 0).due("told(0, 0)", 1000).due("told(0, 1)", 2);
        drawn.due("told(0, 3)", 0).due("told(1, 3)", 60);
    }

    // ---- the public face

    private static String signature(Method m) {
        List<String> types = new ArrayList<>();
        for (Class<?> t : m.getParameterTypes()) types.add(t.getName());
        return Modifier.toString(m.getModifiers()) + " " + m.getReturnType().getName() + " " + m.getName() + "(" + String.join(", ", types) + ");";
    }

    private static void face(String program) {
        Sentences.sentence("public final class FourFlails {");
        Sentences.due("public and final", FourFlails.class.getModifiers(), Modifier.PUBLIC | Modifier.FINAL);
        Sentences.sentence("public static final long NO = -4611686018427387904L;");
        Sentences.due("NO", FourFlails.NO, -4611686018427387904L);
        Sentences.sentence("public FourFlails();");
        Sentences.due("public constructors", FourFlails.class.getConstructors().length, 1);
        Sentences.due("its parameters", FourFlails.class.getConstructors()[0].getParameterCount(), 0);
        Set<String> stand = new TreeSet<>();
        for (Method m : FourFlails.class.getMethods()) if (m.getDeclaringClass() == FourFlails.class) stand.add(signature(m));
        List<String> face = Sentences.all("public (?:int|long) \\w+\\([^)]*\\);");
        for (String line : face) {
            Sentences.sentence(line);
            Sentences.due("has it", stand.contains(line.replaceAll("int \\w+(?=[,)])", "int")) ? 1 : 0, 1);
            Sentences.due("names what it takes so", program.contains(line.replace(";", " {")) ? 1 : 0, 1);
        }
        Sentences.due("methods", stand.size(), face.size());
        Sentences.due("methods of the document", face.size(), 30);
    }

    // ---- terms

    private static void refusals() {
        Sentences.sentence("BAD (-2: a number is none such or not as told), STATE (-3), FULL (-4);");
        Hand x = new Hand().refused("told(0, 3)", -2).refused("told(12, 0)", -2).refused("force(1)", -2).refused("set(0, 0, 10000)", -2).refused("count(7)", -2);
        x.refused("back()", -3).calls("image()").due("back()", 0);
        for (int m = 0; m < 5; m++) x.due("man(0, " + 24 * m + ", 50)", m);
        x.refused("man(0, 0, 50)", -4).calls("back()").due("man(0, 0, 50)", 0);
        for (int t = 1; t < 6; t++) Sentences.due("TEXT " + t, x.reads("gives 1;drifts 1;hurts 1;"), t);
        x.refused("text()", -4);
        for (int k = 0; k < 160; k++) x.call("feed(32)");
        x.due("feed(32)", -4).due("count(5)", 160).due("text()", -4);

        Sentences.sentence("the host's: -11 nothing where something is asked, -12 a place outside, -13 a thing of another sort or KIND, -14 a size below 0.");
        Hand host = new Hand().refused("cell(0, 0, 0)", -11).refused("taken(0, 0)", -11).refused("men(1, 0, 0, 1)", -11).refused("copy(2, 0, 3, 0, 1)", -11);
        host.calls("man(1, 0, 50)").refused("judge(0, 0)", -11).calls("sheet(0, 1, 3)", "sheet(1, 2, 3)");
        host.refused("cell(0, 3, 0)", -12).refused("men(0, 1, 1, 1)", -12).refused("copy(0, 2, 0, 0, 2)", -12);
        host.refused("men(0, 2, 0, 1)", -13).refused("copy(0, 0, 1, 0, 1)", -13).refused("taken(0, 2)", -13).refused("taken(0, 4)", -13).due("taken(0, 0)", 5);
        host.refused("sheet(2, 0, -1)", -14).refused("sheet(0, 0, -1)", -14).due("cell(0, 2, 0)", 1);
    }

    /** Of FORCE 5 and NUMBER 9, in ROUNDS 0 .. 5; by gives force so many of 1000 EARS come out. */
    private static void strikes() {
        Sentences.sentence("STRIKES (so hard, in ROUND r):");
        int[][] want = {{50, 50, 50, 50, 50, 50}, {95, 95, 95, 95, 95, 95}, {50, 49, 48, 47, 46, 45}, {50, 49, 48, 47, 46, 45}, {95, 95, 95, 95, 95, 95}, {25, 24, 24, 23, 23, 22}};
        for (int kind = 0; kind < 6; kind++) {
            Hand x = Hand.with(kind, 0, 59).ruled("force", "0", "1");
            for (int r = 0; r < 6; r++) x.due("told(0, 6)", want[kind][r]).due("round()", want[kind][r]).due("told(" + r + ", 0)", 1000 - want[kind][r]);
        }
    }

    /** Of NUMBER 4, who is so much too late behind a man of BEAT 0, in a BAR of 240. */
    private static void mends() {
        Sentences.sentence("MENDS (of an ERROR e so much):");
        int[] errors = {31, -31, 100, -100, 7, -7, 0};
        int[][] want = {{15, -15, 50, -50, 3, -3, 0}, {7, -7, 25, -25, 1, -1, 0}, {5, -5, 16, -16, 1, -1, 0}, {1, -9, 12, -20, -3, -5, -4},
            {24, -24, 75, -75, 6, -6, 0}, {1, -9, 12, -20, -3, -5, -4}};
        for (int kind = 0; kind < 6; kind++) {
            for (int k = 0; k < errors.length; k++) {
                int beat = 120 + errors[k];
                Hand x = new Hand().calls("set(5, 0, 240)", "man(" + kind + ", " + beat + ", 54)", "man(0, 0, 50)").ruled("1", "0", "1");
                x.due("told(0, 7)", beat).due("mends(0, " + errors[k] + ")", want[kind][k]).due("beat(0, 1)", beat - want[kind][k]);
            }
        }
    }

    // ---- a round

    private static void aRound() {
        Sentences.sentence("A ROUND, with m MEN:");
        for (int m = 0; m <= 5; m++) {
            Hand x = new Hand();
            for (int k = 0; k < m; k++) x.due("man(0, " + k * 120 / Math.max(m, 1) + ", 50)", k);
            x.due("run(1, 0)", 44 * m).due("run(1, 1)", 0).due("round()", 44 * m).due("count(0)", m).due("count(2)", 1).due("count(3)", 44 * m);
            for (int c = 0; c < 12; c++) x.due("told(" + c + ", 0)", c < m ? 956 : 1000);
            for (int k = 0; k < m; k++) x.due("told(" + k + ", 3)", k * 120 / m);
        }
    }

    // ---- headings

    /** The place of a method in the program; the document tells under which heading it stands. */
    private static int placeOf(String program, String method) {
        return Math.max(program.indexOf("public int " + method + "("), program.indexOf("public long " + method + "("));
    }

    private static void headings(String program) {
        int named = 0;
        for (String words : Sentences.all("Ahead of the calls [^:]*: ---- [a-z, ]+\\.")) {
            Sentences.sentence(words);
            String heading = words.substring(words.indexOf("----"), words.length() - 1);
            int from = program.indexOf("// " + heading + "\n");
            Sentences.due("stands in the program", from >= 0 ? 1 : 0, 1);
            int to = program.indexOf("// ----", from + 1);
            String[] split = words.split("`");
            for (int k = 1; k < split.length; k += 2) {
                int at = placeOf(program, split[k]);
                Sentences.due(split[k] + " stands behind it", from < at && at < to ? 1 : 0, 1);
                named++;
            }
        }
        Sentences.due("calls with a heading", named, 30);
    }

    private static void signatures(String program) {
        List<String> words = Sentences.all("## Promise \\d+: [A-Za-z ]+(`[^`]*`:)");
        for (int k = 0; k < words.size(); k++) {
            Sentences.promise(k + 1, words.get(k));
            String face = words.get(k).replaceAll("`:?", "");
            Sentences.due("stands in the program", program.contains("    public " + face + " {") ? 1 : 0, 1);
        }
        Sentences.due("promises", words.size(), 31);
    }

    private static void notPromised() {
        Sentences.asksNothing("How the state is held inside the object is free, as are the speed of each call, the text of toString and the behaviour of equals and hashCode.");
        Sentences.asksNothing("Use of one object from several threads at once is not promised to be safe.");
        Sentences.asksNothing("and nothing about an object after its 512th call.");
    }
}
