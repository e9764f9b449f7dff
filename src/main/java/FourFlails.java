/** Men in a ring who thresh by turns, what their rounds bring, and what would be best for them. */
public final class FourFlails {
    public static final int NONE = -1, BAD = -2, STATE = -3, FULL = -4;
    public static final long NO = -4611686018427387904L;

    private static final int NOTHING = -11, OUTSIDE = -12, OTHER_SORT = -13, BELOW_ZERO = -14;
    private static final int NONE_SUCH = -100000;
    private static final int FAULT_AT_ZERO = -100;

    private static final int CELLS = 12, EARS_AT_FIRST = 1000, MOST_EARS = 9999, WET_AT_FIRST = 2;
    private static final int MOST_MEN = 5, MOST_ORDERS = 120, MOST_BEAT = 239, MOST_WHAT = 99, MOST_DIGIT = 9;
    private static final int LEAST_BAR = 12, MOST_BAR = 240, BAR_AT_FIRST = 120, LAST_ROUND = 999;
    private static final int MAN = 0, STRONG = 1, TIRED = 2, LATE = 3, KEEN = 4, BOY = 5;
    private static final int[] ABOVE = {NONE, MAN, MAN, TIRED, STRONG, LATE};

    private static final int TOO_CLOSE = 8, MOST_ERROR = 240, THOUSAND = 1000, MOST_DRIFT = 99;
    private static final int TRIED_ROUNDS = 12, MOST_ROUNDS = 40, MOST_LESS = 99999, MOST_WANT = 999999;

    private static final int MOST_LETTERS = 160, MOST_LETTER = 255, MOST_TEXTS = 6, MOST_OPEN = 5, MOST_DIGITS = 4;
    private static final String FIRST_TEXT = "gives force - wet * 3 ; drifts tired ; hurts 1 ;";
    private static final int GIVES = 0, DRIFTS = 1, HURTS = 2, PARTS = 3;
    private static final int FORCE = 0, WET = 1, GAP = 2, EARS = 3, ROUND = 4, WEARY = 5, NAMES = 6;

    private static final int SHEETS = 4, MOST_ITEMS = 40, BYTES = 0, SHORTS = 1, INTS = 2, A_MAN = 3;

    private final Floor floor = new Floor();
    private final Floor trial = new Floor();
    private final Floor kept = new Floor();
    private boolean anyKept = false;
    private final Flailing flailing = new Flailing();
    private final Reader tape = new Reader();
    private final Text[] texts = new Text[MOST_TEXTS];
    private int textCount = 0;
    private final Sheet[] sheets = new Sheet[SHEETS];
    private final int[] row = new int[MOST_MEN];
    private final int[] bestRow = new int[MOST_MEN];

    public FourFlails() {
        for (int k = 0; k < MOST_TEXTS; k++) {
            texts[k] = new Text();
        }
        for (int k = 0; k < FIRST_TEXT.length(); k++) {
            tape.add(FIRST_TEXT.charAt(k));
        }
        if (tape.readInto(texts[0])) {
            textCount = 1;
        }
        tape.empty();
    }

    // ---- the floor, men

    public int man(int kind, int beat, int what) {
        if (kind < MAN || kind > BOY || !within(beat, MOST_BEAT) || !within(what, MOST_WHAT)) {
            return BAD;
        }
        if (floor.men >= MOST_MEN) {
            return FULL;
        }
        return floor.add(kind, beat, what);
    }

    public int set(int what, int of, int v) {
        switch (what) {
            case 0:
                return isCell(of) && within(v, MOST_EARS) ? exchange(floor.ears, of, v) : BAD;
            case 1:
                return isCell(of) && within(v, MOST_DIGIT) ? exchange(floor.wet, of, v) : BAD;
            case 2:
                return isMan(of) && within(v, MOST_BEAT) ? exchange(floor.beats, of, held(v, floor.bar)) : BAD;
            case 3:
                return isMan(of) && within(v, MOST_DIGIT) ? exchange(floor.forces, of, v) : BAD;
            case 4:
                return isMan(of) && within(v, MOST_DIGIT) ? exchange(floor.numbers, of, v) : BAD;
            case 5:
                return v >= LEAST_BAR && v <= MOST_BAR ? floor.holdBy(v) : BAD;
            default:
                return BAD;
        }
    }

    public int told(int of, int what) {
        if (what == 0 || what == 1) {
            return !isCell(of) ? BAD : what == 0 ? floor.ears[of] : floor.wet[of];
        }
        if (!isMan(of)) {
            return BAD;
        }
        switch (what) {
            case 2:
                return floor.kinds[of];
            case 3:
                return floor.beats[of];
            case 4:
                return floor.forces[of];
            case 5:
                return floor.numbers[of];
            case 6:
                return floor.strikesOf(of);
            case 7:
                return floor.gapOf(of);
            default:
                return BAD;
        }
    }

    public int mends(int man, int error) {
        if (!isMan(man) || error < -MOST_ERROR || error > MOST_ERROR) {
            return NONE_SUCH;
        }
        return floor.mendsOf(man, error);
    }

    // ---- texts

    public int feed(int letter) {
        if (!within(letter, MOST_LETTER)) {
            return BAD;
        }
        return tape.add(letter) ? tape.size : FULL;
    }

    public int text() {
        if (textCount >= MOST_TEXTS) {
            return FULL;
        }
        boolean read = tape.readInto(texts[textCount]);
        tape.empty();
        if (!read) {
            return FAULT_AT_ZERO - tape.start;
        }
        textCount++;
        return textCount - 1;
    }

    public int force(int text) {
        if (text < 0 || text >= textCount) {
            return BAD;
        }
        int was = floor.rule;
        floor.rule = text;
        return was;
    }

    // ---- rounds

    public int round() {
        int before = floor.out;
        flailing.begin();
        flailing.pass(floor, texts[floor.rule]);
        return floor.out - before;
    }

    public int run(int n, int what) {
        if (!within(n, MOST_ROUNDS) || !within(what, 3)) {
            return BAD;
        }
        beginTrial();
        tryRounds(n);
        switch (what) {
            case 0:
                return trial.out;
            case 1:
                return flailing.knocks;
            case 2:
                return flailing.hit;
            default:
                return trial.allEars();
        }
    }

    public int beat(int man, int n) {
        if (!isMan(man) || !within(n, MOST_ROUNDS)) {
            return BAD;
        }
        beginTrial();
        tryRounds(n);
        return trial.beats[man];
    }

    public int holds() {
        beginTrial();
        for (int k = 0; k < MOST_ROUNDS; k++) {
            tryRounds(1);
            if (flailing.knocks > 0) {
                return k;
            }
        }
        return MOST_ROUNDS;
    }

    // ---- what would be best

    public int bar(int what) {
        if (!within(what, 1)) {
            return BAD;
        }
        int best = NONE;
        int most = NONE;
        for (int b = LEAST_BAR; b <= MOST_BAR; b++) {
            beginTrial();
            trial.holdBy(b);
            tryRounds(TRIED_ROUNDS);
            int worth = trial.out * THOUSAND / (TRIED_ROUNDS * b);
            if (worth > most) {
                most = worth;
                best = b;
            }
        }
        return what == 0 ? best : most;
    }

    public int order(int place) {
        if (place < NONE || place >= floor.men) {
            return BAD;
        }
        int knocks = seekOrder();
        return place < 0 ? knocks : bestRow[place];
    }

    public int home() {
        beginTrial();
        tryRounds(TRIED_ROUNDS);
        int most = trial.out;
        int best = NONE;
        for (int man = 0; man < floor.men; man++) {
            beginTrial();
            trial.leaveOut(man);
            tryRounds(TRIED_ROUNDS);
            if (trial.out > most) {
                most = trial.out;
                best = man;
            }
        }
        return best;
    }

    public int turn() {
        floor.turnStraw();
        return floor.allWet();
    }

    public int when() {
        int most = outTurnedAhead(NONE);
        int best = NONE;
        for (int k = 0; k < TRIED_ROUNDS; k++) {
            int out = outTurnedAhead(k);
            if (out > most) {
                most = out;
                best = k;
            }
        }
        return best;
    }

    public int stop(int less) {
        if (!within(less, MOST_LESS)) {
            return BAD;
        }
        beginTrial();
        for (int k = 0; k < MOST_ROUNDS; k++) {
            int before = trial.out;
            tryRounds(1);
            if (trial.out - before < less) {
                return k;
            }
        }
        return NONE;
    }

    public int fewest(int want) {
        if (!within(want, MOST_WANT)) {
            return BAD;
        }
        for (int m = 1; m <= floor.men; m++) {
            beginTrial();
            trial.men = m;
            tryRounds(TRIED_ROUNDS);
            if (trial.out >= want) {
                return m;
            }
        }
        return NONE;
    }

    public int judge(int man, int sheet) {
        if (!isMan(man) || !isSheet(sheet)) {
            return BAD;
        }
        Sheet notes = sheets[sheet];
        if (notes == null) {
            return NOTHING;
        }
        beginTrial();
        for (int k = 0; k < notes.items.length; k++) {
            tryRounds(1);
            if (trial.beats[man] != notes.items[k]) {
                return k;
            }
        }
        return NONE;
    }

    public int slow(int man) {
        if (!isMan(man)) {
            return NONE_SUCH;
        }
        beginTrial();
        tryRounds(TRIED_ROUNDS);
        int left = trial.allEars();
        beginTrial();
        trial.forces[man] = 0;
        tryRounds(TRIED_ROUNDS);
        return trial.allEars() - left;
    }

    public int drawn(int seed, int n) {
        if (!within(n, MOST_ROUNDS)) {
            return BAD;
        }
        beginTrial();
        flailing.draw(seed);
        tryRounds(n);
        return flailing.knocks;
    }

    public long once(int cell, int part) {
        if (!isCell(cell) || !within(part, 1)) {
            return NO;
        }
        beginTrial();
        flailing.allStrike(trial, texts[floor.rule], cell);
        return part == 0 ? trial.ears[cell] : trial.out;
    }

    public int image() {
        kept.takeOver(floor);
        anyKept = true;
        return floor.round;
    }

    public int back() {
        if (!anyKept) {
            return STATE;
        }
        floor.takeOver(kept);
        return floor.round;
    }

    public int count(int what) {
        switch (what) {
            case 0:
                return floor.men;
            case 1:
                return floor.bar;
            case 2:
                return floor.round;
            case 3:
                return floor.out;
            case 4:
                return textCount;
            case 5:
                return tape.size;
            case 6:
                return floor.rule;
            default:
                return BAD;
        }
    }

    // ---- the host

    public int sheet(int sheet, int sort, int n) {
        if (!isSheet(sheet) || sort < NONE || sort > INTS) {
            return BAD;
        }
        if (sort == NONE) {
            sheets[sheet] = null;
            return 1;
        }
        if (n > MOST_ITEMS) {
            return BAD;
        }
        if (n < 0) {
            return BELOW_ZERO;
        }
        sheets[sheet] = new Sheet(sort, n);
        return 1;
    }

    public int cell(int sheet, int i, int v) {
        if (!isSheet(sheet)) {
            return BAD;
        }
        Sheet at = sheets[sheet];
        if (at == null) {
            return NOTHING;
        }
        return at.put(i, v) ? 1 : OUTSIDE;
    }

    public int copy(int sheet, int i, int other, int j, int n) {
        if (!isSheet(sheet) || !isSheet(other)) {
            return BAD;
        }
        Sheet source = sheets[sheet];
        Sheet target = sheets[other];
        if (source == null || target == null) {
            return NOTHING;
        }
        if (source.sort != target.sort) {
            return OTHER_SORT;
        }
        if (!source.has(i, n) || !target.has(j, n)) {
            return OUTSIDE;
        }
        System.arraycopy(source.items, i, target.items, j, n);
        return n;
    }

    public int men(int sheet, int sort, int from, int n) {
        if (!isSheet(sheet) || sort < BYTES || sort > INTS || !within(n, MOST_MEN)) {
            return BAD;
        }
        Sheet source = sheets[sheet];
        if (source != null && source.sort != sort) {
            return OTHER_SORT;
        }
        if (source == null) {
            return NOTHING;
        }
        int came = 0;
        int at = from;
        for (int k = 0; k < n; k++) {
            if (!source.has(at, A_MAN)) {
                return OUTSIDE;
            }
            if (man(source.items[at], source.items[at + 1], source.items[at + 2]) >= 0) {
                came++;
            }
            at += A_MAN;
        }
        return came;
    }

    public int taken(int man, int k) {
        if (k < MAN || k > BOY) {
            return BAD;
        }
        if (!isMan(man)) {
            return NOTHING;
        }
        return isUnder(floor.kinds[man], k) ? floor.forces[man] : OTHER_SORT;
    }

    // ---- helpers

    private static boolean within(int v, int most) {
        return v >= 0 && v <= most;
    }

    private static boolean isCell(int of) {
        return of >= 0 && of < CELLS;
    }

    private boolean isMan(int of) {
        return of >= 0 && of < floor.men;
    }

    private static boolean isSheet(int of) {
        return of >= 0 && of < SHEETS;
    }

    private static int bounded(int v, int least, int most) {
        return Math.max(least, Math.min(most, v));
    }

    private static int exchange(int[] values, int of, int v) {
        int was = values[of];
        values[of] = v;
        return was;
    }

    private static int held(int beat, int bar) {
        if (bar <= 0) {
            return 0;
        }
        int rest = beat % bar;
        return rest < 0 ? rest + bar : rest;
    }

    /** A kind counts as under itself: the climb starts there. */
    private static boolean isUnder(int kind, int k) {
        int at = kind;
        for (int step = 0; step < ABOVE.length && at >= 0 && at < ABOVE.length; step++) {
            if (at == k) {
                return true;
            }
            at = ABOVE[at];
        }
        return false;
    }

    /** OUT starts at 0 in a trial, so that it tells what the tried rounds alone bring. */
    private void beginTrial() {
        trial.takeOver(floor);
        trial.out = 0;
        flailing.begin();
    }

    private void tryRounds(int n) {
        Text rule = texts[floor.rule];
        for (int k = 0; k < n; k++) {
            flailing.pass(trial, rule);
        }
    }

    private int outTurnedAhead(int round) {
        beginTrial();
        for (int k = 0; k < TRIED_ROUNDS; k++) {
            if (k == round) {
                trial.turnStraw();
            }
            tryRounds(1);
        }
        return trial.out;
    }

    /** Leaves the best order in bestRow; orders are tried as rows ascend, so the first of like ones stays. */
    private int seekOrder() {
        int m = floor.men;
        for (int k = 0; k < m; k++) {
            row[k] = k;
        }
        int knocks = 0;
        int out = 0;
        boolean more = true;
        for (int k = 0; k < MOST_ORDERS && more; k++) {
            beginTrial();
            trial.standAs(floor, row);
            tryRounds(TRIED_ROUNDS);
            if (k == 0 || flailing.knocks < knocks || flailing.knocks == knocks && trial.out > out) {
                knocks = flailing.knocks;
                out = trial.out;
                System.arraycopy(row, 0, bestRow, 0, m);
            }
            more = nextRow(m);
        }
        return knocks;
    }

    /** False if row was the last of all orders. */
    private boolean nextRow(int m) {
        int i = m - 2;
        while (i >= 0 && row[i] > row[i + 1]) {
            i--;
        }
        if (i < 0) {
            return false;
        }
        int j = m - 1;
        while (j > i && row[j] < row[i]) {
            j--;
        }
        row[j] = exchange(row, i, row[j]);
        int b = m - 1;
        for (int a = i + 1; a < b; a++) {
            row[b] = exchange(row, a, row[b]);
            b--;
        }
        return true;
    }

    /** All that an image keeps, and so all that a trial may spoil. */
    private static final class Floor {
        final int[] ears = new int[CELLS];
        final int[] wet = new int[CELLS];
        final int[] kinds = new int[MOST_MEN];
        final int[] beats = new int[MOST_MEN];
        final int[] forces = new int[MOST_MEN];
        final int[] numbers = new int[MOST_MEN];
        int men = 0;
        int bar = BAR_AT_FIRST;
        int round = 0;
        int out = 0;
        int rule = 0;

        Floor() {
            for (int c = 0; c < CELLS; c++) {
                ears[c] = EARS_AT_FIRST;
                wet[c] = WET_AT_FIRST;
            }
        }

        void takeOver(Floor other) {
            System.arraycopy(other.ears, 0, ears, 0, CELLS);
            System.arraycopy(other.wet, 0, wet, 0, CELLS);
            System.arraycopy(other.kinds, 0, kinds, 0, MOST_MEN);
            System.arraycopy(other.beats, 0, beats, 0, MOST_MEN);
            System.arraycopy(other.forces, 0, forces, 0, MOST_MEN);
            System.arraycopy(other.numbers, 0, numbers, 0, MOST_MEN);
            men = other.men;
            bar = other.bar;
            round = other.round;
            out = other.out;
            rule = other.rule;
        }

        /** The caller has seen that there is room. */
        int add(int kind, int beat, int what) {
            int man = men;
            kinds[man] = kind;
            beats[man] = held(beat, bar);
            forces[man] = what / 10;
            numbers[man] = what % 10;
            men++;
            return man;
        }

        private void takeMan(int place, Floor other, int man) {
            kinds[place] = other.kinds[man];
            beats[place] = other.beats[man];
            forces[place] = other.forces[man];
            numbers[place] = other.numbers[man];
        }

        void standAs(Floor other, int[] order) {
            for (int place = 0; place < men; place++) {
                takeMan(place, other, order[place]);
            }
        }

        void leaveOut(int man) {
            for (int place = man; place + 1 < men; place++) {
                takeMan(place, this, place + 1);
            }
            men--;
        }

        /** THE BAR becomes another: what it was. */
        int holdBy(int other) {
            int was = bar;
            bar = other;
            for (int man = 0; man < men; man++) {
                beats[man] = held(beats[man], bar);
            }
            return was;
        }

        int gapOf(int man) {
            if (men == 1) {
                return bar;
            }
            int ahead = man == 0 ? men - 1 : man - 1;
            return held(beats[man] - beats[ahead], bar);
        }

        int cellOf(int man) {
            return (round * men + man) % CELLS;
        }

        int strikesOf(int man) {
            int plain = 10 * forces[man];
            switch (kinds[man]) {
                case STRONG:
                case KEEN:
                    return plain + 5 * numbers[man];
                case TIRED:
                case LATE:
                    return Math.max(0, plain - round);
                case BOY:
                    return Math.max(0, (plain - round) / 2);
                default:
                    return plain;
            }
        }

        int mendsOf(int man, int error) {
            int plain = error / 2;
            switch (kinds[man]) {
                case STRONG:
                    return plain / 2;
                case TIRED:
                    return plain / 3;
                case LATE:
                case BOY:
                    return plain / 3 - numbers[man];
                case KEEN:
                    return error - plain / 2;
                default:
                    return plain;
            }
        }

        void getOut(int cell, int gives) {
            int gone = bounded(gives, 0, THOUSAND) * ears[cell] / THOUSAND;
            ears[cell] -= gone;
            out += gone;
        }

        void turnStraw() {
            for (int c = 0; c < CELLS / 2; c++) {
                ears[CELLS - 1 - c] = exchange(ears, c, ears[CELLS - 1 - c]);
            }
            for (int c = 0; c < CELLS; c++) {
                wet[c] = Math.max(0, wet[c] - 1);
            }
        }

        int allEars() {
            return sum(ears);
        }

        int allWet() {
            return sum(wet);
        }

        private static int sum(int[] values) {
            int all = 0;
            for (int v : values) {
                all += v;
            }
            return all;
        }
    }

    /** Turns and rounds on a floor, with what they are counted by; it holds the rows that a text is told by. */
    private static final class Flailing {
        private final int[] sight = new int[NAMES];
        private final int[] stack = new int[MOST_LETTERS];
        private boolean drawing = false;
        private int z = 0;
        int knocks = 0;
        int hit = 0;

        void begin() {
            drawing = false;
            knocks = 0;
            hit = 0;
        }

        void draw(int seed) {
            drawing = true;
            z = seed;
        }

        void pass(Floor f, Text rule) {
            int share = f.men > 0 ? f.bar / f.men : 0;
            for (int man = 0; man < f.men; man++) {
                takeTurn(f, rule, man, share);
            }
            f.round = Math.min(f.round + 1, LAST_ROUND);
        }

        void allStrike(Floor f, Text rule, int cell) {
            for (int man = 0; man < f.men; man++) {
                look(f, man, cell, f.gapOf(man));
                f.getOut(cell, rule.tells(GIVES, sight, stack));
            }
        }

        /** What the text tells is told by what was seen ahead of the stroke, also where it is asked behind it. */
        private void takeTurn(Floor f, Text rule, int man, int share) {
            int cell = f.cellOf(man);
            int gap = f.gapOf(man);
            look(f, man, cell, gap);
            if (gap >= TOO_CLOSE) {
                f.getOut(cell, rule.tells(GIVES, sight, stack));
            } else {
                knock(man, rule.tells(HURTS, sight, stack));
            }
            int later = bounded(rule.tells(DRIFTS, sight, stack), -MOST_DRIFT, MOST_DRIFT) + nextDrawn();
            f.beats[man] = held(f.beats[man] - f.mendsOf(man, gap - share) + later, f.bar);
        }

        private void look(Floor f, int man, int cell, int gap) {
            sight[FORCE] = f.strikesOf(man);
            sight[WET] = f.wet[cell];
            sight[GAP] = gap;
            sight[EARS] = f.ears[cell];
            sight[ROUND] = f.round;
            sight[WEARY] = f.numbers[man];
        }

        private void knock(int man, int hurts) {
            knocks++;
            if (hurts != 0) {
                hit |= 1 << man;
            }
        }

        private int nextDrawn() {
            if (!drawing) {
                return 0;
            }
            z = z * 1103515245 + 12345;
            return (z >>> 9) % 7 - 3;
        }
    }

    /** A text as rows of steps for a stack, so that telling it needs neither recursion nor new objects. */
    private static final class Text {
        /** Steps from 0 on are numbers, those from -1 to -NAMES are names, all below work on the stack. */
        static final int NEGATE = -7, DENY = -8, ADD = -9, SUBTRACT = -10, MULTIPLY = -11;
        static final int LESS = -12, LIKE = -13, BOTH = -14, EITHER = -15;

        private final int[] steps = new int[MOST_LETTERS];
        private final int[] ends = new int[PARTS + 1];
        private int size = 0;

        void clear() {
            size = 0;
        }

        void put(int step) {
            if (size < steps.length) {
                steps[size] = step;
                size++;
            }
        }

        void endPart(int part) {
            ends[part + 1] = size;
        }

        int tells(int part, int[] sight, int[] stack) {
            int top = -1;
            int end = Math.min(ends[part + 1], steps.length);
            for (int k = ends[part]; k < end; k++) {
                int step = steps[k];
                if (step >= -NAMES) {
                    if (top + 1 < stack.length) {
                        top++;
                        stack[top] = step >= 0 ? step : sight[-1 - step];
                    }
                } else if (step >= DENY) {
                    if (top >= 0) {
                        stack[top] = step == NEGATE ? -stack[top] : stack[top] == 0 ? 1 : 0;
                    }
                } else if (top >= 1) {
                    top--;
                    stack[top] = joined(step, stack[top], stack[top + 1]);
                }
            }
            return top >= 0 ? stack[top] : 0;
        }

        private static int joined(int step, int a, int b) {
            switch (step) {
                case ADD:
                    return a + b;
                case SUBTRACT:
                    return a - b;
                case MULTIPLY:
                    return a * b;
                case LESS:
                    return a < b ? 1 : 0;
                case LIKE:
                    return a == b ? 1 : 0;
                case BOTH:
                    return a != 0 && b != 0 ? 1 : 0;
                default:
                    return a != 0 || b != 0 ? 1 : 0;
            }
        }
    }

    /** THE TAPE and its reading; one token is seen ahead, and start is its place, the fault's too if reading fails. */
    private static final class Reader {
        private static final int END = 0, NUMBER = 1, WRONG = 2, FIRST_WORD = 3;
        private static final int OR = 6, AND = 7, NOT = 8, FIRST_NAME = 9, WORDS = 12;

        private final int[] letters = new int[MOST_LETTERS];
        int size = 0;
        int start = 0;
        private int at = 0;
        private int token = END;
        private int value = 0;
        private Text into = new Text();

        boolean add(int letter) {
            if (size >= letters.length) {
                return false;
            }
            letters[size] = letter;
            size++;
            return true;
        }

        void empty() {
            size = 0;
        }

        boolean readInto(Text text) {
            into = text;
            text.clear();
            at = 0;
            next();
            for (int part = 0; part < PARTS; part++) {
                if (!take(FIRST_WORD + part) || !either(0) || !take(';')) {
                    return false;
                }
                text.endPart(part);
            }
            return token == END;
        }

        private boolean take(int wanted) {
            if (token != wanted) {
                return false;
            }
            next();
            return true;
        }

        private void next() {
            while (at < size && (letters[at] == ' ' || letters[at] == '\n')) {
                at++;
            }
            start = at;
            if (at >= size) {
                token = END;
            } else if (isDigit(letters[at])) {
                token = numberHere();
            } else if (isSmall(letters[at])) {
                token = wordHere();
            } else {
                token = isSign(letters[at]) ? letters[at] : WRONG;
                at++;
            }
        }

        private int numberHere() {
            value = 0;
            while (at < size && isDigit(letters[at])) {
                value = 10 * value + letters[at] - '0';
                at++;
            }
            return at - start <= MOST_DIGITS ? NUMBER : WRONG;
        }

        private int wordHere() {
            while (at < size && isSmall(letters[at])) {
                at++;
            }
            for (int k = 0; k < WORDS; k++) {
                if (isHere(word(k))) {
                    return FIRST_WORD + k;
                }
            }
            return WRONG;
        }

        private boolean isHere(String word) {
            if (word.length() != at - start) {
                return false;
            }
            for (int k = 0; k < word.length(); k++) {
                if (word.charAt(k) != letters[start + k]) {
                    return false;
                }
            }
            return true;
        }

        private static String word(int k) {
            switch (k) {
                case 0: return "gives";
                case 1: return "drifts";
                case 2: return "hurts";
                case 3: return "or";
                case 4: return "and";
                case 5: return "not";
                case 6: return "force";
                case 7: return "wet";
                case 8: return "gap";
                case 9: return "ears";
                case 10: return "round";
                default: return "tired";
            }
        }

        private static boolean isDigit(int letter) {
            return letter >= '0' && letter <= '9';
        }

        private static boolean isSmall(int letter) {
            return letter >= 'a' && letter <= 'z';
        }

        private static boolean isSign(int letter) {
            return letter == '(' || letter == ')' || letter == ';' || letter == '+'
                || letter == '-' || letter == '*' || letter == '<' || letter == '=';
        }

        private boolean either(int open) {
            boolean fits = both(open);
            for (int k = 0; k < MOST_LETTERS && fits && token == OR; k++) {
                next();
                fits = both(open);
                into.put(Text.EITHER);
            }
            return fits;
        }

        private boolean both(int open) {
            boolean fits = denied(open);
            for (int k = 0; k < MOST_LETTERS && fits && token == AND; k++) {
                next();
                fits = denied(open);
                into.put(Text.BOTH);
            }
            return fits;
        }

        private boolean denied(int open) {
            if (token == NOT) {
                if (open >= MOST_OPEN) {
                    return false;
                }
                next();
                boolean fits = denied(open + 1);
                into.put(Text.DENY);
                return fits;
            }
            if (!sum(open)) {
                return false;
            }
            if (token != '<' && token != '=') {
                return true;
            }
            int step = token == '<' ? Text.LESS : Text.LIKE;
            next();
            boolean fits = sum(open);
            into.put(step);
            return fits;
        }

        private boolean sum(int open) {
            boolean fits = term(open);
            for (int k = 0; k < MOST_LETTERS && fits && (token == '+' || token == '-'); k++) {
                int step = token == '+' ? Text.ADD : Text.SUBTRACT;
                next();
                fits = term(open);
                into.put(step);
            }
            return fits;
        }

        private boolean term(int open) {
            boolean fits = one(open);
            for (int k = 0; k < MOST_LETTERS && fits && token == '*'; k++) {
                next();
                fits = one(open);
                into.put(Text.MULTIPLY);
            }
            return fits;
        }

        private boolean one(int open) {
            if (token == NUMBER) {
                into.put(value);
                next();
                return true;
            }
            if (token >= FIRST_NAME && token < FIRST_WORD + WORDS) {
                into.put(FIRST_NAME - 1 - token);
                next();
                return true;
            }
            if (open >= MOST_OPEN) {
                return false;
            }
            if (take('-')) {
                boolean fits = one(open + 1);
                into.put(Text.NEGATE);
                return fits;
            }
            return take('(') && either(open + 1) && take(')');
        }
    }

    /** Items are held as the sort lets them be, so that reading them needs no look at the sort. */
    private static final class Sheet {
        final int sort;
        final int[] items;

        Sheet(int sort, int n) {
            this.sort = sort;
            this.items = new int[n];
        }

        boolean has(int from, int n) {
            return from >= 0 && n >= 0 && n <= items.length - from;
        }

        boolean put(int i, int v) {
            if (i < 0 || i >= items.length) {
                return false;
            }
            items[i] = sort == BYTES ? (byte) v : sort == SHORTS ? (short) v : v;
            return true;
        }
    }
}
