/** What a text is, where its fault lies, and what its expressions tell. */
public final class TextsTest {
    private static int wrong = 0;
    private static int asked = 0;

    private static void due(String call, long got, long want) {
        asked++;
        if (got != want) {
            wrong++;
            System.out.println(call + " answered " + got + ", due is " + want);
        }
    }

    private static int read(FourFlails x, String s) {
        for (int k = 0; k < s.length(); k++) {
            x.feed(s.charAt(k));
        }
        return x.text();
    }

    private static void good(String s) {
        due("text '" + s + "'", read(new FourFlails(), s), 1);
    }

    /** The place of the fault is marked by a ^ in what is fed, which is left out. */
    private static void faultAt(String marked) {
        int place = marked.indexOf('^');
        String s = marked.substring(0, place) + marked.substring(place + 1);
        due("text '" + s + "'", read(new FourFlails(), s), -100 - place);
    }

    /** An E ahead of the rest; in front of it stand 6 bytes. */
    private static void goodE(String e) {
        good("gives " + e + ";drifts 1;hurts 1;");
        good("gives 1;drifts " + e + ";hurts 1;");
        good("gives 1;drifts 1;hurts " + e + ";");
    }

    private static void faultE(String marked) {
        faultAt("gives " + marked + ";drifts 1;hurts 1;");
        faultAt("gives 1;drifts " + marked + ";hurts 1;");
        faultAt("gives 1;drifts 1;hurts " + marked + ";");
    }

    private static void shapes() {
        good("gives force - wet * 3 ; drifts tired ; hurts 1 ;");
        good("gives1;drifts2;hurts3;");
        good("\n gives\n1 ; drifts\n\n2;hurts 3; \n ");
        good("gives gap;drifts ears;hurts round;");
        faultAt("^");
        faultAt("  ^");
        faultAt("gives ^");
        faultAt("gives 1^");
        faultAt("gives 1;^");
        faultAt("gives 1; drifts 1; hurts 1^");
        faultAt("gives 1; drifts 1; hurts 1 \n ^");
        faultAt("gives 1 ^drifts 1; hurts 1;");
        faultAt("^drifts 1; gives 1; hurts 1;");
        faultAt("gives 1; ^hurts 1; drifts 1;");
        faultAt("gives 1; drifts 1; ^gives 1;");
        faultAt("gives 1; drifts 1; hurts 1; ^;");
        faultAt("gives 1; drifts 1; hurts 1; ^gives 1;");
        faultAt("gives 1; drifts 1; hurts 1; ^x");
        faultAt("gives 1; drifts 1; hurts 1;^\0");
        faultAt("gives ^;drifts 1; hurts 1;");
        faultAt("^1;");
        faultAt("^;");
        faultAt("^give 1; drifts 1; hurts 1;");
        faultAt("^givesx 1; drifts 1; hurts 1;");
        faultAt("^Gives 1; drifts 1; hurts 1;");
        faultAt("gives 1;^\tdrifts 1; hurts 1;");
        faultAt("gives 1;^\rdrifts 1; hurts 1;");
    }

    private static void bytes() {
        for (int b = 0; b < 256; b++) {
            boolean begins = b == ' ' || b == '\n' || b >= 'a' && b <= 'z' || b >= '0' && b <= '9' || "();+-*<=".indexOf(b) >= 0;
            if (!begins) {
                faultE("1^" + (char) b);
                faultE("^" + (char) b + " 1");
                faultAt("^" + (char) b);
            }
        }
    }

    private static void tokens() {
        goodE("0");
        goodE("9999");
        goodE("0000");
        faultE("^12345");
        faultE("^00000");
        faultE("1 + ^99999999999999999999");
        faultE("1 ^2");
        faultE("1 ^force");
        faultE("force ^1");
        goodE("1or 2and 3");
        goodE("not(1)and(2)or(3)");
        faultE("^forcewet");
        faultE("^notwet");
        faultE("1 ^orwet");
        faultE("^nots 1");
        faultE("^fforce");
        faultE("^xorce");
        faultE("1 ^xr 1");
        faultE("^forcez");
        faultE("^zforce");
        faultE("^aforce");
        faultE("^forc");
        faultE("^tiredd");
        faultE("^gives");
        faultE("^drifts + 1");
        faultE("1 + ^hurts");
        faultE("^or");
        faultE("^and 1");
        faultE("1 ^x");
        faultE("1 ^12345");
    }

    private static void grammar() {
        goodE("1 or 2 or 3 and 4 and 5");
        goodE("not 1 or not 2 and not not 3");
        goodE("1 < 2 or 1 = 2");
        goodE("not 1 < 2");
        goodE("(1 < 2) < 3");
        goodE("1 + 2 - 3 + 4 * 5 * 6");
        goodE("1 - - 2 * - 3");
        goodE("--1");
        goodE("-(1)*-(not 2)");
        faultE("1 < 2 ^< 3");
        faultE("1 = 2 ^= 3");
        faultE("1 < 2 ^= 3");
        faultE("not 1 < 2 ^< 3");
        faultE("1 < ^not 2");
        faultE("1 + ^not 2");
        faultE("1 * ^not 2");
        faultE("- ^not 2");
        faultE("1 + ^");
        faultE("1 < ^");
        faultE("1 or ^");
        faultE("1 and ^or 1");
        faultE("not ^");
        faultE("- ^");
        faultE("^+ 1");
        faultE("^* 1");
        faultE("^< 1");
        faultE("^)");
        faultE("(^)");
        faultE("(1 ^");
        faultE("(1 ^2)");
        faultE("(1) ^)");
        faultE("1 ^(2)");
        faultE("1 ^not 2");
        faultE("(1) ^(2)");
        faultE("1 + (2 * (3 or ^");
    }

    private static void depth() {
        goodE("(((((1)))))");
        faultE("(((((^(1))))))");
        goodE("- - - - - 1");
        faultE("- - - - - ^- 1");
        goodE("not not not not not 1");
        faultE("not not not not not ^not 1");
        goodE("not not (-(1))");
        faultE("not not (-(^-1))");
        faultE("not not (-(^(1)))");
        faultE("not not (-(^not 1))");
        faultE("not (((-^not 1)))");
        faultE("not ((((^not 1))))");
        goodE("(((((1))))) + (((((2)))))");
        goodE("-----1 * -----2 - -----3");
        goodE("not not not not not 1 and not not not not not 2");
        goodE("not (((( 1 - 1 - 1 ))))");
        faultE("not (((( 1 - ^- 1 ))))");
        goodE("not not not not not 1 < 2 or - - - - - 1");
        faultE("not not not not not 1 < ^-2");
        faultE("not not not not not 1 + ^(2)");
        goodE("((((-1 * -2 + -3))))");
        faultE("((((-1 * -^-2))))");
        goodE("((((-1)*-2)))");
        faultE("(((((1) + ^");
    }

    /** What an E tells, 0 .. 1000, of one man (KIND 1, FORCE 3, NUMBER 4) in ROUND 2 on a CELL of 1000 EARS and WET 2. */
    private static void tells(String e, int want) {
        FourFlails x = new FourFlails();
        x.man(1, 7, 34);
        x.round();
        x.round();
        due("text of " + e, read(x, "gives " + e + ";drifts 0;hurts 0;"), 1);
        x.force(1);
        due(e, x.once(5, 1), want);
    }

    private static void values() {
        tells("force", 50);
        tells("wet", 2);
        tells("gap", 120);
        tells("ears", 1000);
        tells("round", 2);
        tells("tired", 4);
        tells("2 + 3 * 4", 14);
        tells("2 * 3 + 4", 10);
        tells("(2 + 3) * 4", 20);
        tells("20 - 3 - 4", 13);
        tells("20 - 3 + 4", 21);
        tells("20 - (3 - 4)", 21);
        tells("- - 5", 5);
        tells("-2 * -3", 6);
        tells("9 - -3", 12);
        tells("100 + -2 * 3", 94);
        tells("0007", 7);
        tells("3 < 4", 1);
        tells("4 < 4", 0);
        tells("5 < 4", 0);
        tells("-5 < 4", 1);
        tells("4 = 4", 1);
        tells("4 = 5", 0);
        tells("1 + 2 < 2 * 2", 1);
        tells("not 0", 1);
        tells("not 7", 0);
        tells("not -7", 0);
        tells("not not 7", 1);
        tells("not 3 < 4", 0);
        tells("not 4 < 3", 1);
        tells("(not 3) < 4", 1);
        tells("5 and 6", 1);
        tells("5 and 0", 0);
        tells("0 and 0", 0);
        tells("5 or 0", 1);
        tells("0 or 6", 1);
        tells("0 or 0", 0);
        tells("-1 and -1", 1);
        tells("1 or 0 and 0", 1);
        tells("(1 or 0) and 0", 0);
        tells("not 0 and 0", 0);
        tells("not (0 and 0)", 1);
        tells("(7)", 7);
        tells("1000 * (2 < 3 and wet = 2) - 1", 999);
        tells("9999 * 9999 * 9999 * 0 + 5", 5);
        tells("9999", 1000);
        tells("-9999", 0);
        // 2^31 - 1, and one more wraps: 46340 * 46340 = 2147395600, + 88047 = 2147483647
        tells("(4634 * 10 * 4634 * 10 + 8804 * 10 + 7) * 0 + 3", 3);
        tells("(4634 * 10 * 4634 * 10 + 8804 * 10 + 7 < 0) + 10", 10);
        tells("(4634 * 10 * 4634 * 10 + 8804 * 10 + 8 < 0) + 10", 11);
        tells("(-(4634 * 10 * 4634 * 10 + 8804 * 10 + 8) < 0) + 10", 11);
        tells("(256 * 256 * 256 * 256 = 0) + 10", 11);
    }

    /** drifts and hurts are told of the same man, by the CELL on which his stroke falls. */
    private static void otherParts() {
        FourFlails x = new FourFlails();
        x.man(0, 0, 50);
        x.set(1, 1, 9);
        read(x, "gives 0;drifts wet;hurts 0;");
        x.force(1);
        due("WET of CELL 0", x.beat(0, 1), 2);
        due("WET of CELLS 0, 1", x.beat(0, 2), 11);
        read(x, "gives 0;drifts round - 3;hurts 0;");
        x.force(2);
        due("-3", x.beat(0, 1), 117);
        due("-3 - 2 - 1 + 0 + 1", x.beat(0, 5), 115);
        FourFlails close = new FourFlails();
        close.man(0, 0, 50);
        close.man(0, 6, 50);
        close.set(5, 0, 12);
        close.set(1, 1, 9);
        read(close, "gives 0;drifts 0;hurts wet = 9;");
        close.force(1);
        due("WET of CELL 1, on which the stroke of man 1 would fall", close.run(1, 2), 2);
        due("WET of CELLS 2, 3 behind it", close.run(6, 2), 2);
        read(close, "gives 0;drifts 0;hurts gap - 6;");
        close.force(2);
        due("gap is 6", close.run(1, 2), 0);
    }

    /** A text that fails leaves none of itself in the next, nor in those that stand. */
    private static void afterFaults() {
        FourFlails x = new FourFlails();
        x.man(0, 0, 50);
        due("fails late", read(x, "gives 77;drifts 7;hurts 7"), -100 - 25);
        due("gives of TEXT 0", x.once(0, 1), 44);
        due("stands", read(x, "gives 5;drifts 0;hurts 0;"), 1);
        due("fails", read(x, "gives 77;drifts 7;hurts 7; 7"), -100 - 27);
        x.force(1);
        due("gives of TEXT 1", x.once(0, 1), 5);
        due("stands", read(x, "gives 6;drifts 0;hurts 0;"), 2);
        due("gives of TEXT 1 still", x.once(0, 1), 5);
        x.force(2);
        due("gives of TEXT 2", x.once(0, 1), 6);
    }

    /** The longest chains that 160 bytes hold: no row inside may be too short for them. */
    private static void longest() {
        String head = "gives ";
        String tail = ";drifts 0;hurts 0;";
        StringBuilder s = new StringBuilder("1");
        while (head.length() + s.length() + 2 + tail.length() <= 160) s.append("+1");
        tells(s.toString(), (s.length() + 1) / 2);
        StringBuilder n = new StringBuilder("-----1");
        int ones = 1;
        while (head.length() + n.length() + 7 + tail.length() <= 160) {
            n.append("------1");
            ones++;
        }
        tells(n.toString(), ones - 2);
        tells("1or 1and 1=1+1*(1or 1and 1=1+1*(1or 1and 1=1+1*(1or 1and 1=1+1*(1or 1and 1=1+1*(1)))))", 1);
        tells("0or 1and 2=1+1*(0or 1and 2=1+1*(0or 1and 2=1+1*(0or 1and 2=1+1*(0or 1and 2=1+1*(1)))))", 1);
        tells("0or 1and 2=1+1*(0or 1and 2=1+1*(0or 1and 2=1+1*(0or 1and 2=1+1*(0or 1and 2=1+1*(0)))))", 0);
    }

    public static void main(String[] args) {
        shapes();
        bytes();
        tokens();
        grammar();
        depth();
        values();
        otherParts();
        afterFaults();
        longest();
        System.out.println(wrong == 0 ? asked + " answers are as due" : wrong + " answers are not as due");
        if (wrong != 0) System.exit(1);
    }
}
