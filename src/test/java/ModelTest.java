import java.util.ArrayList;
import java.util.Arrays;
import java.util.HashMap;
import java.util.List;
import java.util.Map;
import java.util.Random;
import java.util.function.ToIntFunction;

/**
 * Random runs of calls, held against a second writing of the document that shares no code with the class:
 * immutable worlds, texts as functions, all searches spelled out.
 */
public final class ModelTest {
    static final long NO = -4611686018427387904L;

    // ---- texts

    static final class Fault extends RuntimeException {
        private static final long serialVersionUID = 1L;
        final int place;
        Fault(int place) { super(null, null, false, false); this.place = place; }
    }

    record Token(String word, int place) { }

    interface Expr extends ToIntFunction<Map<String, Integer>> { }

    static final List<String> NAMES = List.of("force", "wet", "gap", "ears", "round", "tired");
    static final List<String> KEYS = List.of("gives", "drifts", "hurts", "or", "and", "not");

    static final class Parse {
        final List<Token> tokens = new ArrayList<>();
        int next = 0;
        int open = 0;

        Parse(String s) {
            int i = 0;
            boolean lexed = true;
            while (i < s.length() && lexed) {
                char c = s.charAt(i);
                if (c == ' ' || c == '\n') { i++; continue; }
                int j = i + 1;
                if (c >= 'a' && c <= 'z') {
                    while (j < s.length() && s.charAt(j) >= 'a' && s.charAt(j) <= 'z') j++;
                } else if (c >= '0' && c <= '9') {
                    while (j < s.length() && s.charAt(j) >= '0' && s.charAt(j) <= '9') j++;
                }
                tokens.add(new Token(s.substring(i, j), i));
                i = j;
            }
            tokens.add(new Token("", s.length()));
        }

        Token peek() { return tokens.get(next); }
        boolean at(String w) { return peek().word.equals(w); }
        Fault fault() { return new Fault(peek().place); }
        void eat(String w) { if (!at(w)) throw fault(); next++; }
        void open() { if (open == 5) throw fault(); open++; next++; }

        Expr[] whole() {
            Expr[] parts = new Expr[3];
            for (int k = 0; k < 3; k++) {
                eat(KEYS.get(k));
                parts[k] = or();
                eat(";");
            }
            eat("");
            return parts;
        }

        Expr or() {
            Expr a = and();
            while (at("or")) {
                next++;
                Expr x = a, y = and();
                a = m -> (x.applyAsInt(m) != 0) | (y.applyAsInt(m) != 0) ? 1 : 0;
            }
            return a;
        }

        Expr and() {
            Expr a = not();
            while (at("and")) {
                next++;
                Expr x = a, y = not();
                a = m -> (x.applyAsInt(m) != 0) & (y.applyAsInt(m) != 0) ? 1 : 0;
            }
            return a;
        }

        Expr not() {
            if (at("not")) {
                open();
                Expr x = not();
                open--;
                return m -> x.applyAsInt(m) == 0 ? 1 : 0;
            }
            Expr x = sum();
            if (at("<")) { next++; Expr y = sum(); return m -> x.applyAsInt(m) < y.applyAsInt(m) ? 1 : 0; }
            if (at("=")) { next++; Expr y = sum(); return m -> x.applyAsInt(m) == y.applyAsInt(m) ? 1 : 0; }
            return x;
        }

        Expr sum() {
            Expr a = term();
            while (at("+") || at("-")) {
                boolean plus = at("+");
                next++;
                Expr x = a, y = term();
                a = plus ? m -> x.applyAsInt(m) + y.applyAsInt(m) : m -> x.applyAsInt(m) - y.applyAsInt(m);
            }
            return a;
        }

        Expr term() {
            Expr a = one();
            while (at("*")) {
                next++;
                Expr x = a, y = one();
                a = m -> x.applyAsInt(m) * y.applyAsInt(m);
            }
            return a;
        }

        Expr one() {
            String w = peek().word;
            if (w.matches("[0-9]{1,4}")) { next++; int v = Integer.parseInt(w); return m -> v; }
            if (NAMES.contains(w)) { next++; return m -> m.get(w); }
            if (w.equals("-")) {
                open();
                Expr x = one();
                open--;
                return m -> -x.applyAsInt(m);
            }
            if (w.equals("(")) {
                open();
                Expr x = or();
                eat(")");
                open--;
                return x;
            }
            throw fault();
        }
    }

    // ---- the world

    record Man(int kind, int beat, int force, int number) {
        Man beat(int b) { return new Man(kind, b, force, number); }
        int rawStrikes(int k, int r) {
            return switch (k) {
                case 0 -> force * 10;
                case 1 -> rawStrikes(0, r) + 5 * number;
                case 2 -> rawStrikes(0, r) - r;
                case 3 -> rawStrikes(2, r);
                case 4 -> rawStrikes(1, r);
                default -> rawStrikes(3, r) / 2;
            };
        }
        int strikes(int r) { return Math.max(0, rawStrikes(kind, r)); }
        int mends(int k, int e) {
            return switch (k) {
                case 0 -> e / 2;
                case 1 -> mends(0, e) / 2;
                case 2 -> mends(0, e) / 3;
                case 3 -> mends(2, e) - number;
                case 4 -> e - mends(1, e);
                default -> mends(3, e);
            };
        }
    }

    static final class World {
        int[] ears = new int[12], wet = new int[12];
        List<Man> men = new ArrayList<>();
        int bar = 120, round = 0, out = 0, rule = 0;
        int knocks = 0, hits = 0;
        boolean drawing = false;
        int z;

        World() { Arrays.fill(ears, 1000); Arrays.fill(wet, 2); }

        World copy() {
            World w = new World();
            w.ears = ears.clone(); w.wet = wet.clone(); w.men = new ArrayList<>(men);
            w.bar = bar; w.round = round; w.out = out; w.rule = rule;
            return w;
        }

        World bar(int b) {
            bar = b;
            men.replaceAll(x -> x.beat(Math.floorMod(x.beat(), b)));
            return this;
        }

        int gap(int i) {
            int m = men.size();
            if (m == 1) return bar;
            return Math.floorMod(men.get(i).beat() - men.get((i + m - 1) % m).beat(), bar);
        }

        Map<String, Integer> sight(int i, int c, int gap) {
            Map<String, Integer> s = new HashMap<>();
            s.put("force", men.get(i).strikes(round));
            s.put("wet", wet[c]);
            s.put("gap", gap);
            s.put("ears", ears[c]);
            s.put("round", round);
            s.put("tired", men.get(i).number());
            return s;
        }

        World round(Expr[] text) {
            int m = men.size();
            for (int i = 0; i < m; i++) {
                int g = gap(i), c = (round * m + i) % 12;
                Map<String, Integer> s = sight(i, c, g);
                int gives = Math.min(1000, Math.max(0, text[0].applyAsInt(s)));
                int drifts = Math.min(99, Math.max(-99, text[1].applyAsInt(s)));
                boolean hurts = text[2].applyAsInt(s) != 0;
                if (drawing) {
                    z = z * 1103515245 + 12345;
                    drifts += (z >>> 9) % 7 - 3;
                }
                if (g < 8) {
                    knocks++;
                    if (hurts) hits |= 1 << i;
                } else {
                    int o = gives * ears[c] / 1000;
                    ears[c] -= o;
                    out += o;
                }
                Man x = men.get(i);
                int e = g - bar / m;
                men.set(i, x.beat(Math.floorMod(x.beat() - x.mends(x.kind(), e) + drifts, bar)));
            }
            round = Math.min(999, round + 1);
            return this;
        }

        World rounds(int n, Expr[] text) {
            for (int k = 0; k < n; k++) round(text);
            return this;
        }

        World turned() {
            int[] e = new int[12];
            for (int c = 0; c < 12; c++) {
                e[c] = ears[11 - c];
                wet[c] = Math.max(0, wet[c] - 1);
            }
            ears = e;
            return this;
        }

        int left() { return Arrays.stream(ears).sum(); }
    }

    record Row(int sort, int[] v) { }

    // ---- the model's calls

    static final class Model {
        World w = new World();
        World kept = null;
        final List<Expr[]> texts = new ArrayList<>();
        final StringBuilder tape = new StringBuilder();
        final Row[] sheets = new Row[4];

        Model() { texts.add(new Parse("gives force - wet * 3 ; drifts tired ; hurts 1 ;").whole()); }

        Expr[] rule() { return texts.get(w.rule); }
        boolean isMan(int i) { return 0 <= i && i < w.men.size(); }
        World ahead(int n) { return w.copy().rounds(n, rule()); }
        int outOf(World x) { int o = x.out; return x.rounds(12, rule()).out - o; }

        int man(int kind, int beat, int what) {
            if (kind < 0 || kind > 5 || beat < 0 || beat > 239 || what < 0 || what > 99) return -2;
            if (w.men.size() == 5) return -4;
            w.men.add(new Man(kind, beat % w.bar, what / 10, what % 10));
            return w.men.size() - 1;
        }

        int set(int what, int of, int v) {
            if (what < 0 || what > 5 || v < 0) return -2;
            if (what < 2 && (of < 0 || of > 11)) return -2;
            if (what >= 2 && what < 5 && !isMan(of)) return -2;
            int was;
            switch (what) {
                case 0: if (v > 9999) return -2; was = w.ears[of]; w.ears[of] = v; return was;
                case 1: if (v > 9) return -2; was = w.wet[of]; w.wet[of] = v; return was;
                case 2: if (v > 239) return -2; was = w.men.get(of).beat(); w.men.set(of, w.men.get(of).beat(v % w.bar)); return was;
                case 3: {
                    if (v > 9) return -2;
                    Man x = w.men.get(of); w.men.set(of, new Man(x.kind(), x.beat(), v, x.number())); return x.force();
                }
                case 4: {
                    if (v > 9) return -2;
                    Man x = w.men.get(of); w.men.set(of, new Man(x.kind(), x.beat(), x.force(), v)); return x.number();
                }
                default: if (v < 12 || v > 240) return -2; was = w.bar; w.bar(v); return was;
            }
        }

        int told(int of, int what) {
            if (what < 0 || what > 7) return -2;
            if (what < 2) return of < 0 || of > 11 ? -2 : what == 0 ? w.ears[of] : w.wet[of];
            if (!isMan(of)) return -2;
            Man x = w.men.get(of);
            return new int[] {x.kind(), x.beat(), x.force(), x.number(), x.strikes(w.round), w.gap(of)}[what - 2];
        }

        int mends(int man, int error) {
            if (!isMan(man) || Math.abs((long) error) > 240) return -100000;
            return w.men.get(man).mends(w.men.get(man).kind(), error);
        }

        int feed(int letter) {
            if (letter < 0 || letter > 255) return -2;
            if (tape.length() == 160) return -4;
            tape.append((char) letter);
            return tape.length();
        }

        int text() {
            if (texts.size() == 6) return -4;
            String s = tape.toString();
            tape.setLength(0);
            try {
                texts.add(new Parse(s).whole());
                return texts.size() - 1;
            } catch (Fault f) {
                return -100 - f.place;
            }
        }

        int force(int t) {
            if (t < 0 || t >= texts.size()) return -2;
            int was = w.rule; w.rule = t; return was;
        }

        int round() { int o = w.out; w.round(rule()); return w.out - o; }

        int run(int n, int what) {
            if (n < 0 || n > 40 || what < 0 || what > 3) return -2;
            World x = ahead(n);
            return new int[] {x.out - w.out, x.knocks, x.hits, x.left()}[what];
        }

        int beat(int man, int n) {
            if (!isMan(man) || n < 0 || n > 40) return -2;
            return ahead(n).men.get(man).beat();
        }

        int holds() {
            int n = 0;
            while (n < 40 && ahead(n + 1).knocks == 0) n++;
            return n;
        }

        int bar(int what) {
            if (what < 0 || what > 1) return -2;
            int best = 12, most = outOf(w.copy().bar(12)) * 1000 / 144;
            for (int b = 13; b <= 240; b++) {
                int r = outOf(w.copy().bar(b)) * 1000 / (12 * b);
                if (r > most) { most = r; best = b; }
            }
            return what == 0 ? best : most;
        }

        void orders(List<Integer> so, List<List<Integer>> all) {
            if (so.size() == w.men.size()) { all.add(new ArrayList<>(so)); return; }
            for (int i = 0; i < w.men.size(); i++) {
                if (!so.contains(i)) {
                    so.add(i);
                    orders(so, all);
                    so.remove(so.size() - 1);
                }
            }
        }

        int order(int place) {
            if (place < -1 || place >= w.men.size()) return -2;
            List<List<Integer>> all = new ArrayList<>();
            orders(new ArrayList<>(), all);
            List<Integer> best = null;
            int knocks = 0, out = 0;
            for (List<Integer> o : all) {
                World x = w.copy();
                x.men.clear();
                for (int i : o) x.men.add(w.men.get(i));
                x.rounds(12, rule());
                if (best == null || x.knocks < knocks || (x.knocks == knocks && x.out > out)) {
                    best = o; knocks = x.knocks; out = x.out;
                }
            }
            return place == -1 ? knocks : best.get(place);
        }

        int home() {
            int most = outOf(w.copy()), best = -1;
            for (int i = 0; i < w.men.size(); i++) {
                World x = w.copy();
                x.men.remove(i);
                int o = outOf(x);
                if (o > most) { most = o; best = i; }
            }
            return best;
        }

        int turn() { w.turned(); return Arrays.stream(w.wet).sum(); }

        int when() {
            int most = outOf(w.copy()), best = -1;
            for (int k = 0; k < 12; k++) {
                int o = ahead(k).turned().rounds(12 - k, rule()).out - w.out;
                if (o > most) { most = o; best = k; }
            }
            return best;
        }

        int stop(int less) {
            if (less < 0 || less > 99999) return -2;
            for (int k = 0; k < 40; k++) if (ahead(k + 1).out - ahead(k).out < less) return k;
            return -1;
        }

        int fewest(int want) {
            if (want < 0 || want > 999999) return -2;
            for (int m = 1; m <= w.men.size(); m++) {
                World x = w.copy();
                x.men = new ArrayList<>(w.men.subList(0, m));
                if (outOf(x) >= want) return m;
            }
            return -1;
        }

        int judge(int man, int s) {
            if (!isMan(man) || s < 0 || s > 3) return -2;
            if (sheets[s] == null) return -11;
            for (int k = 0; k < sheets[s].v().length; k++) {
                if (ahead(k + 1).men.get(man).beat() != sheets[s].v()[k]) return k;
            }
            return -1;
        }

        int slow(int man) {
            if (!isMan(man)) return -100000;
            World x = w.copy();
            Man o = x.men.get(man);
            x.men.set(man, new Man(o.kind(), o.beat(), 0, o.number()));
            return x.rounds(12, rule()).left() - ahead(12).left();
        }

        int drawn(int seed, int n) {
            if (n < 0 || n > 40) return -2;
            World x = w.copy();
            x.drawing = true;
            x.z = seed;
            return x.rounds(n, rule()).knocks;
        }

        long once(int cell, int part) {
            if (cell < 0 || cell > 11 || part < 0 || part > 1) return NO;
            World x = w.copy();
            for (int i = 0; i < x.men.size(); i++) {
                int g = Math.min(1000, Math.max(0, rule()[0].applyAsInt(x.sight(i, cell, w.gap(i)))));
                x.ears[cell] -= g * x.ears[cell] / 1000;
            }
            return part == 0 ? x.ears[cell] : w.ears[cell] - x.ears[cell];
        }

        int image() { kept = w.copy(); return w.round; }

        int back() {
            if (kept == null) return -3;
            w = kept.copy();
            return w.round;
        }

        int count(int what) {
            if (what < 0 || what > 6) return -2;
            return new int[] {w.men.size(), w.bar, w.round, w.out, texts.size(), tape.length(), w.rule}[what];
        }

        int sheet(int s, int sort, int n) {
            if (s < 0 || s > 3 || sort < -1 || sort > 2) return -2;
            if (sort == -1) { sheets[s] = null; return 1; }
            if (n > 40) return -2;
            if (n < 0) return -14;
            sheets[s] = new Row(sort, new int[n]);
            return 1;
        }

        int cell(int s, int i, int v) {
            if (s < 0 || s > 3) return -2;
            if (sheets[s] == null) return -11;
            if (i < 0 || i >= sheets[s].v().length) return -12;
            int lost = new int[] {24, 16, 0}[sheets[s].sort()];
            sheets[s].v()[i] = v << lost >> lost;
            return 1;
        }

        int copy(int s, int i, int o, int j, int n) {
            if (s < 0 || s > 3 || o < 0 || o > 3) return -2;
            if (sheets[s] == null || sheets[o] == null) return -11;
            if (sheets[s].sort() != sheets[o].sort()) return -13;
            if (i < 0 || j < 0 || n < 0 || (long) i + n > sheets[s].v().length || (long) j + n > sheets[o].v().length) return -12;
            int[] were = sheets[s].v().clone();
            for (int k = 0; k < n; k++) sheets[o].v()[j + k] = were[i + k];
            return n;
        }

        int men(int s, int sort, int from, int n) {
            if (s < 0 || s > 3 || sort < 0 || sort > 2 || n < 0 || n > 5) return -2;
            if (sheets[s] == null) return -11;
            if (sheets[s].sort() != sort) return -13;
            int came = 0;
            int[] v = sheets[s].v();
            for (int k = 0; k < n; k++) {
                long a = from + 3L * k;
                if (a < 0 || a + 2 >= v.length) return -12;
                int b = (int) a;
                if (man(v[b], v[b + 1], v[b + 2]) >= 0) came++;
            }
            return came;
        }

        int taken(int man, int k) {
            if (k < 0 || k > 5) return -2;
            if (!isMan(man)) return -11;
            int[][] under = {{0}, {1, 0}, {2, 0}, {3, 2, 0}, {4, 1, 0}, {5, 3, 2, 0}};
            for (int a : under[w.men.get(man).kind()]) if (a == k) return w.men.get(man).force();
            return -13;
        }
    }

    // ---- runs

    static final Random random = new Random(20261118);
    static int wrong = 0;
    static final List<String> log = new ArrayList<>();
    static final Map<String, Integer> seen = new HashMap<>();

    static void due(String call, long got, long want) {
        log.add(call + " -> " + want);
        seen.merge(call.substring(0, call.indexOf('(')) + (want < 0 ? " refused or NONE" : ""), 1, Integer::sum);
        boolean free = log.size() > 512;
        if (got != want && !free) {
            wrong++;
            System.out.println("wrong: " + call + " answered " + got + ", due is " + want + " behind " + log);
        }
    }

    static int pick(int from, int to) { return from + random.nextInt(to - from + 1); }

    static int wild(int from, int to) {
        int r = random.nextInt(40);
        if (r == 0) return from - 1;
        if (r == 1) return to + 1;
        if (r == 2) return new int[] {Integer.MIN_VALUE, Integer.MAX_VALUE, -1, -1000, 1000}[random.nextInt(5)];
        if (r == 3) return from;
        if (r == 4) return to;
        return pick(from, to);
    }

    static String expr(int depth) {
        if (depth == 0 || random.nextInt(4) == 0) {
            return random.nextInt(3) == 0 ? String.valueOf(pick(0, random.nextBoolean() ? 9 : 999)) : NAMES.get(random.nextInt(6));
        }
        String a = expr(depth - 1), b = expr(depth - 1);
        switch (random.nextInt(11)) {
            case 0: return a + "+" + b;
            case 1: return a + " - " + b;
            case 2: return a + "*" + b;
            case 3: return a + "<" + b;
            case 4: return a + " =" + b;
            case 5: return a + " and " + b;
            case 6: return a + " or " + b;
            case 7: return "not " + a;
            case 8: return "-" + a;
            default: return "(" + a + ")";
        }
    }

    static String spoilt(String s) {
        int at = random.nextInt(s.length() + 1);
        String bit = new String[] {"", "(", ")", "not ", "-", "<", "x", "12345", ";", " ", "\n", "\t", "A", "or ", "- - -", "((", "not not not "}[random.nextInt(17)];
        if (random.nextInt(3) == 0 && at < s.length()) return s.substring(0, at) + s.substring(at + 1);
        if (random.nextInt(5) == 0) return s.substring(0, at);
        return s.substring(0, at) + bit + s.substring(at);
    }

    static String wholeText() {
        String s = "gives " + expr(pick(0, 3)) + ";drifts " + expr(pick(0, 2)) + " ; hurts " + expr(pick(0, 2)) + ";";
        for (int k = random.nextInt(3); k > 0; k--) s = spoilt(s);
        return s;
    }

    static void call(FourFlails x, Model m, int which) {
        int men = Math.max(0, m.w.men.size() - 1);
        switch (which) {
            case 0: { int a = wild(0, 5), b = wild(0, 239), c = wild(0, 99); due("man(" + a + ", " + b + ", " + c + ")", x.man(a, b, c), m.man(a, b, c)); break; }
            case 1: {
                int a = wild(0, 5), b = a < 2 ? wild(0, 11) : wild(0, men);
                int c = a == 0 ? wild(0, 9999) : a == 2 ? wild(0, 239) : a == 5 ? wild(12, random.nextBoolean() ? 40 : 240) : wild(0, 9);
                due("set(" + a + ", " + b + ", " + c + ")", x.set(a, b, c), m.set(a, b, c)); break;
            }
            case 2: { int b = wild(0, 7), a = b < 2 ? wild(0, 11) : wild(0, men); due("told(" + a + ", " + b + ")", x.told(a, b), m.told(a, b)); break; }
            case 3: { int a = wild(0, men), b = wild(-240, 240); due("mends(" + a + ", " + b + ")", x.mends(a, b), m.mends(a, b)); break; }
            case 4: { int a = wild(0, 255); due("feed(" + a + ")", x.feed(a), m.feed(a)); break; }
            case 5: {
                String s = wholeText();
                for (int k = 0; k < s.length(); k++) due("feed(" + (int) s.charAt(k) + ")", x.feed(s.charAt(k)), m.feed(s.charAt(k)));
                due("text()", x.text(), m.text()); break;
            }
            case 6: { int a = wild(0, Math.max(0, m.texts.size() - 1)); due("force(" + a + ")", x.force(a), m.force(a)); break; }
            case 7: due("round()", x.round(), m.round()); break;
            case 8: { int a = wild(0, 40), b = wild(0, 3); due("run(" + a + ", " + b + ")", x.run(a, b), m.run(a, b)); break; }
            case 9: { int a = wild(0, men), b = wild(0, 40); due("beat(" + a + ", " + b + ")", x.beat(a, b), m.beat(a, b)); break; }
            case 10: due("holds()", x.holds(), m.holds()); break;
            case 11: { int a = wild(0, 1); due("bar(" + a + ")", x.bar(a), m.bar(a)); break; }
            case 12: { int a = wild(-1, men); due("order(" + a + ")", x.order(a), m.order(a)); break; }
            case 13: due("home()", x.home(), m.home()); break;
            case 14: due("turn()", x.turn(), m.turn()); break;
            case 15: due("when()", x.when(), m.when()); break;
            case 16: { int a = random.nextBoolean() ? pick(0, 300) : wild(0, 99999); due("stop(" + a + ")", x.stop(a), m.stop(a)); break; }
            case 17: { int a = random.nextBoolean() ? pick(0, 4000) : wild(0, 999999); due("fewest(" + a + ")", x.fewest(a), m.fewest(a)); break; }
            case 18: { int a = wild(0, men), b = wild(0, 3); due("judge(" + a + ", " + b + ")", x.judge(a, b), m.judge(a, b)); break; }
            case 19: { int a = wild(0, men); due("slow(" + a + ")", x.slow(a), m.slow(a)); break; }
            case 20: { int a = random.nextInt(), b = wild(0, 40); due("drawn(" + a + ", " + b + ")", x.drawn(a, b), m.drawn(a, b)); break; }
            case 21: { int a = wild(0, 11), b = wild(0, 1); due("once(" + a + ", " + b + ")", x.once(a, b), m.once(a, b)); break; }
            case 22: due("image()", x.image(), m.image()); break;
            case 23: due("back()", x.back(), m.back()); break;
            case 24: { int a = wild(0, 6); due("count(" + a + ")", x.count(a), m.count(a)); break; }
            case 25: { int a = wild(0, 3), b = wild(-1, 2), c = wild(0, 40); due("sheet(" + a + ", " + b + ", " + c + ")", x.sheet(a, b, c), m.sheet(a, b, c)); break; }
            case 26: { int a = wild(0, 3), b = wild(0, 20), c = random.nextBoolean() ? random.nextInt() : pick(0, 99); due("cell(" + a + ", " + b + ", " + c + ")", x.cell(a, b, c), m.cell(a, b, c)); break; }
            case 27: {
                int a = wild(0, 3), b = wild(0, 20), c = wild(0, 3), d = wild(0, 20), e = wild(0, 10);
                due("copy(" + a + ", " + b + ", " + c + ", " + d + ", " + e + ")", x.copy(a, b, c, d, e), m.copy(a, b, c, d, e)); break;
            }
            case 28: {
                int a = wild(0, 3), b = m.sheets[a & 3] != null && random.nextInt(3) > 0 ? m.sheets[a & 3].sort() : wild(0, 2), c = wild(0, 12), d = wild(0, 5);
                due("men(" + a + ", " + b + ", " + c + ", " + d + ")", x.men(a, b, c, d), m.men(a, b, c, d)); break;
            }
            case 29: { int a = wild(0, men), b = wild(0, 5); due("taken(" + a + ", " + b + ")", x.taken(a, b), m.taken(a, b)); break; }
            default: notesOfBeats(x, m, men);
        }
    }

    /** Right notes of beats, but for perhaps one: chance alone would never write them. */
    static void notesOfBeats(FourFlails x, Model m, int man) {
        if (m.w.men.isEmpty()) return;
        int n = pick(0, 40), off = pick(0, 60), sort = pick(1, 2);
        due("sheet(3, " + sort + ", " + n + ")", x.sheet(3, sort, n), m.sheet(3, sort, n));
        for (int k = 0; k < n; k++) {
            int v = m.beat(man, k + 1) + (k == off ? 1 : 0);
            due("cell(3, " + k + ", " + v + ")", x.cell(3, k, v), m.cell(3, k, v));
        }
        due("judge(" + man + ", 3)", x.judge(man, 3), m.judge(man, 3));
    }

    static void wholeState(FourFlails x, Model m) {
        for (int k = 0; k < 7; k++) due("count(" + k + ")", x.count(k), m.count(k));
        for (int c = 0; c < 12; c++) for (int k = 0; k < 2; k++) due("told(" + c + ", " + k + ")", x.told(c, k), m.told(c, k));
        for (int i = 0; i < m.w.men.size(); i++) for (int k = 2; k < 8; k++) due("told(" + i + ", " + k + ")", x.told(i, k), m.told(i, k));
    }

    static void oneRun(int calls) {
        FourFlails x = new FourFlails();
        Model m = new Model();
        log.clear();
        for (int k = pick(0, 5); k > 0; k--) call(x, m, 0);
        if (random.nextInt(3) == 0) {
            int b = pick(12, 60);
            due("set(5, 0, " + b + ")", x.set(5, 0, b), m.set(5, 0, b));
        }
        for (int k = 0; k < calls && wrong == 0; k++) {
            int which = random.nextInt(31);
            boolean dear = which == 11 || which == 12;
            if (!dear || random.nextInt(4) == 0) call(x, m, which);
            if (random.nextInt(20) == 0) wholeState(x, m);
        }
        wholeState(x, m);
    }

    static void textsOnly(int n) {
        for (int k = 0; k < n && wrong == 0; k++) {
            FourFlails x = new FourFlails();
            Model m = new Model();
            log.clear();
            call(x, m, 0);
            call(x, m, 5);
            due("force(1)", x.force(1), m.force(1));
            call(x, m, 5);
            due("run(5, 0)", x.run(5, 0), m.run(5, 0));
            due("once(3, 0)", x.once(3, 0), m.once(3, 0));
            due("round()", x.round(), m.round());
        }
    }

    public static void main(String[] args) {
        int runs = args.length > 1 ? Integer.parseInt(args[1]) : 400;
        for (int r = 0; r < runs && wrong == 0; r++) oneRun(60);
        textsOnly(10 * runs);
        if (args.length > 1) System.out.println(new java.util.TreeMap<>(seen));
        System.out.println(wrong == 0 ? "the class answers as the model does" : wrong + " answers are not as due");
        if (wrong != 0) System.exit(1);
    }
}
