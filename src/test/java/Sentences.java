import java.io.IOException;
import java.nio.charset.StandardCharsets;
import java.nio.file.Files;
import java.nio.file.Path;
import java.util.ArrayList;
import java.util.List;

/** The document's sentences, each quoted ahead of the answers that it asks for; what was asked is counted here. */
final class Sentences {
    private static final int PROMISES = 31;
    private static final String DOCUMENT = document();
    private static final boolean[] quoted = new boolean[DOCUMENT.length()];
    private static final List<Integer> promised = new ArrayList<>();
    private static String sentence = "";
    private static int sentences = 0;
    private static int asked = 0;
    private static int wrongs = 0;

    private Sentences() { }

    private static String folded(String s) { return s.replaceAll("\\s+", " ").trim(); }

    private static String document() {
        try {
            return folded(Files.readString(Path.of(System.getProperty("shared", "../shared"), "DOC.md"), StandardCharsets.ISO_8859_1));
        } catch (IOException e) {
            throw new IllegalStateException("the document can't be read", e);
        }
    }

    /** What is asked next is told by these words, which must stand in the document just once. */
    static void sentence(String words) {
        sentence = words;
        sentences++;
        String s = folded(words);
        int at = DOCUMENT.indexOf(s);
        if (at < 0 || DOCUMENT.indexOf(s, at + 1) >= 0) {
            wrong(at < 0 ? "the document has no such words" : "the document has these words twice");
            return;
        }
        for (int k = at; k < at + s.length(); k++) quoted[k] = true;
    }

    /** The same for a sentence of a promise, whose words may stand under other promises too. */
    static void promise(int number, String words) {
        sentence = "Promise " + number + ": " + words;
        sentences++;
        promised.add(number);
        int from = DOCUMENT.indexOf("## Promise " + number + ":");
        int to = DOCUMENT.indexOf("## ", from + 1);
        String s = folded(words);
        int at = DOCUMENT.indexOf(s, from);
        if (from < 0 || at < 0 || at + s.length() > to) {
            wrong("the promise has no such words");
            return;
        }
        for (int k = at; k < at + s.length(); k++) quoted[k] = true;
    }

    static void due(String call, long got, long want) {
        asked++;
        if (got != want) wrong(call + " answered " + got + ", due is " + want);
    }

    static void wrong(String what) {
        wrongs++;
        System.out.println("'" + sentence + "': " + what);
    }

    /** What no sentence quoted, for whoever adds to the tests. */
    static String unquoted() {
        StringBuilder s = new StringBuilder();
        for (int k = 0; k < quoted.length; k++) {
            if (!quoted[k]) s.append(DOCUMENT.charAt(k));
            else if (k > 0 && !quoted[k - 1]) s.append(" ~ ");
        }
        return s.toString();
    }

    static void end() {
        for (int p = 1; p <= PROMISES; p++) if (!promised.contains(p)) wrong("promise " + p + " has no test here");
        System.out.println(wrongs == 0 ? asked + " answers are as due by " + sentences + " sentences" : wrongs + " answers are not as due");
        if (wrongs != 0) System.exit(1);
    }
}
