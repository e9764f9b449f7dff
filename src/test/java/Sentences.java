import java.io.IOException;
import java.nio.charset.StandardCharsets;
import java.nio.file.Files;
import java.nio.file.Path;
import java.util.ArrayList;
import java.util.List;
import java.util.regex.Matcher;
import java.util.regex.Pattern;

/** The document's sentences, each quoted ahead of the answers that it asks for; what was asked is counted here. */
final class Sentences {
    private static final int PROMISES = 31;
    /** What is left of the document beside its sentences: headings, numbers of paragraphs, fences. */
    private static final String[] FORM = {"^# FourFlails", "## What it is", "## The public face ```java", "\\} ```", "## Terms", "==== \\d", "```text", "```",
        "## Promise \\d+: [A-Za-z ]+(?= `)", "## Not promised"};
    private static final String DOCUMENT = document();
    private static final boolean[] quoted = new boolean[DOCUMENT.length()];
    private static final List<Integer> promised = new ArrayList<>();
    private static String sentence = "";
    private static int sentences = 0;
    private static int asked = 0;
    private static int askedAhead = -1;
    private static int wrongs = 0;

    private Sentences() { }

    private static String folded(String s) { return s.replaceAll("\\s+", " ").trim(); }

    private static String document() {
        try {
            return folded(Files.readString(Path.of(System.getProperty("shared", "../shared"), "DOC.md"), StandardCharsets.ISO_8859_1));
        } catch (IOException e) {
            throw new IllegalStateException("the document can't be read", e);
        }
    }

    /** All that the document says by such a pattern, from its first line on; of what stands in (), if there is such. */
    static List<String> all(String pattern) {
        List<String> found = new ArrayList<>();
        Matcher m = Pattern.compile(pattern).matcher(DOCUMENT);
        while (m.find()) found.add(m.group(m.groupCount() > 0 ? 1 : 0));
        return found;
    }

    /** What is asked next is told by these words, which must stand in the document just once. */
    static void sentence(String words) {
        begin(words);
        quote(words, 0, DOCUMENT.length());
    }

    /** The same for a sentence of a promise, whose words may stand under other promises too. */
    static void promise(int number, String words) {
        begin("Promise " + number + ": " + words);
        promised.add(number);
        int from = DOCUMENT.indexOf("## Promise " + number + ":");
        if (from < 0) wrong("there is no such promise");
        else quote(words, from, DOCUMENT.indexOf("## ", from + 1));
    }

    /** Words by which no answer is due. */
    static void asksNothing(String words) {
        seeThatAsked();
        sentence = words;
        askedAhead = -1;
        quote(words, 0, DOCUMENT.length());
    }

    private static void begin(String words) {
        seeThatAsked();
        sentence = words;
        sentences++;
        askedAhead = asked;
    }

    private static void seeThatAsked() {
        if (asked == askedAhead) wrong("nothing was asked behind these words");
    }

    private static void quote(String words, int from, int to) {
        String s = folded(words);
        int at = DOCUMENT.indexOf(s, from);
        if (at < 0 || at + s.length() > to) {
            wrong("there are no such words");
            return;
        }
        int again = DOCUMENT.indexOf(s, at + 1);
        if (again >= 0 && again + s.length() <= to) wrong("these words stand there twice");
        for (int k = at; k < at + s.length(); k++) quoted[k] = true;
    }

    static void due(String call, long got, long want) {
        asked++;
        if (got != want) wrong(call + " answered " + got + ", due is " + want);
    }

    static void wrong(String what) {
        wrongs++;
        System.out.println("'" + sentence + "': " + what);
    }

    private static void passOverForm() {
        for (String pattern : FORM) {
            Matcher m = Pattern.compile(pattern).matcher(DOCUMENT);
            while (m.find()) for (int k = m.start(); k < m.end(); k++) quoted[k] = true;
        }
    }

    /** The document without what was quoted, a ~ for that. */
    private static String unquoted() {
        StringBuilder s = new StringBuilder();
        for (int k = 0; k < quoted.length; k++) {
            if (!quoted[k]) s.append(DOCUMENT.charAt(k));
            else if (k == 0 || !quoted[k - 1]) s.append('~');
        }
        return s.toString().replaceAll("~[~ ]*", "~ ");
    }

    /** Every word of the document must have been quoted by now. */
    static void end() {
        seeThatAsked();
        sentence = "The whole document";
        passOverForm();
        String left = unquoted();
        if (!left.replaceAll("[~ ]", "").isEmpty()) wrong("no test quotes " + left);
        for (int p = 1; p <= PROMISES; p++) if (!promised.contains(p)) wrong("promise " + p + " has no test here");
        System.out.println(wrongs == 0 ? asked + " answers are as due by " + sentences + " sentences" : wrongs + " answers are not as due");
        if (wrongs != 0) System.exit(1);
    }
}
