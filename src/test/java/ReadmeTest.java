import java.lang.reflect.InvocationTargetException;
import java.net.URL;
import java.net.URLClassLoader;
import java.nio.charset.StandardCharsets;
import java.nio.file.DirectoryStream;
import java.nio.file.Files;
import java.nio.file.Path;
import java.util.ArrayList;
import java.util.List;
import java.util.regex.Matcher;
import java.util.regex.Pattern;
import javax.tools.JavaCompiler;
import javax.tools.ToolProvider;

/** README.md: its examples compile and the class answers as they say; it names each refusal and each test. */
public final class ReadmeTest {
    private static final Pattern BLOCK = Pattern.compile("```java\n(.*?)```", Pattern.DOTALL);
    private static final Pattern ANSWERED = Pattern.compile("(\\w+\\.\\w+\\(.*\\)); +// (-?\\d+)(:.*)?");
    private static final String[] REFUSALS = {"`NONE` -1", "`BAD` -2", "`STATE` -3", "`FULL` -4", "-11", "-12", "-13", "-14", "-100 - place", "-100000", "`NO` -4611686018427387904"};
    private static int wrong = 0;
    private static int asked = 0;

    /** Called by the example, too. */
    public static void due(String call, long got, long want) {
        asked++;
        if (got != want) fault(call + " answered " + got + ", README says " + want);
    }

    private static void fault(String what) {
        wrong++;
        System.out.println(what);
    }

    /** The example's lines, those with an answer as questions. */
    private static String program(String readme) {
        StringBuilder s = new StringBuilder("public final class Example {\npublic static void ask() {\n");
        Matcher m = BLOCK.matcher(readme);
        while (m.find()) {
            for (String line : m.group(1).split("\n")) {
                Matcher call = ANSWERED.matcher(line);
                if (call.matches()) {
                    String c = call.group(1);
                    s.append("ReadmeTest.due(\"").append(c.replace("\"", "\\\"")).append("\", ").append(c).append(", ").append(call.group(2)).append("L);\n");
                } else {
                    if (line.contains("//")) fault("no answer can be read from: " + line);
                    s.append(line).append('\n');
                }
            }
        }
        return s.append("}\n}\n").toString();
    }

    private static void runExample(String readme) throws Exception {
        Path dir = Files.createTempDirectory("readme");
        Path source = dir.resolve("Example.java");
        Files.writeString(source, program(readme));
        JavaCompiler compiler = ToolProvider.getSystemJavaCompiler();
        int failed = compiler.run(null, System.out, System.out, "-cp", System.getProperty("java.class.path"), "-proc:none", "-d", dir.toString(), source.toString());
        if (failed != 0) {
            fault("the examples don't compile");
            return;
        }
        try (URLClassLoader loader = new URLClassLoader(new URL[] {dir.toUri().toURL()}, ReadmeTest.class.getClassLoader())) {
            loader.loadClass("Example").getMethod("ask").invoke(null);
        } catch (InvocationTargetException e) {
            fault("the examples threw " + e.getCause());
        }
        Files.delete(dir.resolve("Example.class"));
        Files.delete(source);
        Files.delete(dir);
    }

    private static void namesAll(String readme, Path root) throws Exception {
        for (String r : REFUSALS) if (!readme.contains("| " + r + " |")) fault("README names no refusal " + r);
        List<String> tests = new ArrayList<>();
        try (DirectoryStream<Path> files = Files.newDirectoryStream(root.resolve("src/test/java"), "*Test.java")) {
            for (Path f : files) tests.add(f.getFileName().toString().replace(".java", ""));
        }
        if (tests.size() < 7) fault("only " + tests.size() + " tests were found");
        for (String t : tests) if (!readme.contains("| `" + t + "` |")) fault("README names no test " + t);
        for (String words : new String[] {"## Use", "## Refusals", "## Tests", "`.ci/run`"}) if (!readme.contains(words)) fault("README has no " + words);
    }

    public static void main(String[] args) throws Exception {
        Path source = Path.of(args.length > 0 ? args[0] : "src/main/java/FourFlails.java").toAbsolutePath();
        Path root = source.getParent().getParent().getParent().getParent();
        String readme = Files.readString(root.resolve("README.md"), StandardCharsets.UTF_8);
        runExample(readme);
        if (asked < 40) fault("only " + asked + " answers were read");
        namesAll(readme, root);
        System.out.println(wrong == 0 ? asked + " answers are as README says" : wrong + " faults in README");
        if (wrong != 0) System.exit(1);
    }
}
