import java.lang.reflect.InvocationTargetException;
import java.lang.reflect.Method;
import java.util.ArrayList;
import java.util.HashMap;
import java.util.List;
import java.util.Map;
import java.util.Objects;
import java.util.Set;
import java.util.TreeSet;

/**
 * A FourFlails that is called by texts such as "man(0, 0, 50)". It counts its calls, since the 513th may answer
 * anything, and keeps them, so that a refused call can be left out in a second run of the same calls.
 */
final class Hand {
    static final int NONE = -1, BAD = -2, STATE = -3, FULL = -4;
    static final int NOTHING = -11, OUTSIDE = -12, OTHER = -13, BELOW = -14, NONE_SUCH = -100000;
    static final int LEAST = Integer.MIN_VALUE, MOST = Integer.MAX_VALUE;
    private static final int MOST_CALLS = 512;
    private static final Map<String, Method> METHODS = new HashMap<>();

    static {
        for (Method m : FourFlails.class.getMethods()) {
            if (m.getDeclaringClass() == FourFlails.class) METHODS.put(m.getName(), m);
        }
    }

    private final FourFlails flails = new FourFlails();
    private final List<String> standing = new ArrayList<>();
    private int calls = 0;

    /** MEN told three by three, as man() takes them. */
    static Hand with(int... men) {
        Hand x = new Hand();
        for (int k = 0; k + 2 < men.length; k += 3) x.calls("man(" + men[k] + ", " + men[k + 1] + ", " + men[k + 2] + ")");
        return x;
    }

    long call(String call) {
        calls++;
        if (calls > MOST_CALLS) Sentences.wrong(call + " is call " + calls + " of its object");
        standing.add(call);
        return answer(call);
    }

    private long answer(String call) {
        int open = call.indexOf('(');
        Method m = METHODS.get(call.substring(0, open));
        String inside = call.substring(open + 1, call.length() - 1).trim();
        String[] words = inside.isEmpty() ? new String[0] : inside.split(" *, *");
        Object[] numbers = new Object[words.length];
        for (int k = 0; k < words.length; k++) numbers[k] = Integer.valueOf(words[k]);
        try {
            return ((Number) m.invoke(flails, numbers)).longValue();
        } catch (InvocationTargetException e) {
            throw new IllegalStateException(call + " threw", e.getCause());
        } catch (IllegalAccessException e) {
            throw new IllegalStateException(e);
        }
    }

    Hand calls(String... many) {
        for (String c : many) call(c);
        return this;
    }

    Hand feeds(String s) {
        for (int k = 0; k < s.length(); k++) call("feed(" + (int) s.charAt(k) + ")");
        return this;
    }

    long reads(String s) { return feeds(s).call("text()"); }

    /** A text of three E, which is THE RULE then. */
    Hand ruled(String gives, String drifts, String hurts) {
        String s = "gives " + gives + ";drifts " + drifts + ";hurts " + hurts + ";";
        long text = reads(s);
        if (text < 1) Sentences.wrong("'" + s + "' is no TEXT: " + text);
        call("force(" + text + ")");
        return this;
    }

    Hand due(String call, long want) {
        Sentences.due(call, call(call), want);
        return this;
    }

    /** Answers that are due, one behind the other, of a call in which % stands for a number from a first one on. */
    Hand dueFrom(String call, int first, long... want) {
        for (int k = 0; k < want.length; k++) due(call.replace("%", String.valueOf(first + k)), want[k]);
        return this;
    }

    /** The call answers so, and an object that has heard it tells all that one tells which has not. */
    Hand refused(String call, long want) {
        changes(call, want);
        standing.remove(standing.size() - 1);
        return this;
    }

    /** The call answers so, and all that is told otherwise behind it is what begins with one of these words. */
    Hand changes(String call, long want, String... otherwise) {
        Map<String, Long> ahead = all();
        due(call, want);
        Map<String, Long> behind = all();
        Set<String> told = new TreeSet<>(ahead.keySet());
        told.addAll(behind.keySet());
        told.removeIf(t -> Objects.equals(ahead.get(t), behind.get(t)));
        for (String words : otherwise) {
            Sentences.due(words + " is told otherwise behind " + call, told.removeIf(t -> t.startsWith(words)) ? 1 : 0, 1);
        }
        Sentences.due("what else is told otherwise behind " + call + " " + told, told.size(), 0);
        return this;
    }

    /** The same for each number, which stands for the % of the call. */
    Hand refusedFor(String call, long want, int... numbers) {
        for (int n : numbers) refused(call.replace("%", String.valueOf(n)), want);
        return this;
    }

    /** What is only asked changes as little as what is refused. */
    Hand asked(String call, long want) { return refused(call, want); }

    Hand again() {
        Hand x = new Hand();
        for (String c : standing) x.call(c);
        return x;
    }

    // ---- all that calls tell

    /** Since telling changes what it tells of, each part is told by an object of its own, that has heard the same calls. */
    private Map<String, Long> all() {
        Map<String, Long> told = new HashMap<>();
        again().tellNow(told);
        again().tellKept(told);
        again().tellTexts(told);
        for (int sheet = 0; sheet < 4; sheet++) again().tellSheet(told, sheet);
        return told;
    }

    private void tellNow(Map<String, Long> told) {
        for (int k = 4; k < 6; k++) tell(told, "now ", "count(" + k + ")");
        tellFloor(told, "now ");
    }

    private void tellKept(Map<String, Long> told) {
        tell(told, "kept ", "back()");
        tellFloor(told, "kept ");
    }

    private long tell(Map<String, Long> told, String where, String call) {
        long answer = call(call);
        told.put(where + call, answer);
        return answer;
    }

    private void tellFloor(Map<String, Long> told, String where) {
        long men = tell(told, where, "count(0)");
        for (int k : new int[] {1, 2, 3, 6}) tell(told, where, "count(" + k + ")");
        for (int c = 0; c < 12; c++) for (int k = 0; k < 2; k++) tell(told, where, "told(" + c + ", " + k + ")");
        for (int m = 0; m < men; m++) for (int k = 2; k < 6; k++) tell(told, where, "told(" + m + ", " + k + ")");
    }

    /** By the floor that is kept, so that what changed on the floor itself is told apart from it. */
    private void tellTexts(Map<String, Long> told) {
        call("back()");
        long texts = call("count(4)");
        if (tell(told, "tape ", "text()") > 0) texts++;
        for (int t = 0; t < texts; t++) {
            call("force(" + t + ")");
            for (int k = 0; k < 3; k++) tell(told, "text " + t + " ", "run(3, " + k + ")");
        }
    }

    /** Its size by where nothing can be copied to, its sort by what it may be taken for, its items by the MEN in it. */
    private void tellSheet(Map<String, Long> told, int sheet) {
        String where = "sheet " + sheet + " ";
        call("back()");
        int size = 0;
        while (tell(told, where, "copy(" + sheet + ", " + size + ", " + sheet + ", " + size + ", 1)") == 1) size++;
        for (int sort = 0; sort < 3; sort++) {
            if (tell(told, where, "men(" + sheet + ", " + sort + ", 0, 0)") == 0) tellMenOf(told, sheet, sort, size);
        }
    }

    private void tellMenOf(Map<String, Long> told, int sheet, int sort, int size) {
        for (int i = 0; i + 2 < size; i += 3) {
            String where = "sheet " + sheet + " item " + i + " ";
            tell(told, where, "men(" + sheet + ", " + sort + ", " + i + ", 1)");
            long last = call("count(0)") - 1;
            for (int k = 2; k < 6; k++) told.put(where + k, call("told(" + last + ", " + k + ")"));
            call("back()");
        }
    }
}
