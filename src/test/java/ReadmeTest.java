import java.io.ByteArrayOutputStream;
import java.io.IOException;
import java.io.PrintStream;
import java.net.URL;
import java.net.URLClassLoader;
import java.nio.charset.StandardCharsets;
import java.nio.file.DirectoryStream;
import java.nio.file.Files;
import java.nio.file.Path;
import java.util.ArrayList;
import java.util.List;
import java.util.regex.Matcher;
import java.util.regex.Pattern;
import javax.tools.ToolProvider;

/** README.md tells all in the document's words, and its example compiles and prints what it says. */
public final class ReadmeTest {
    private static final Path TESTS = Path.of("src/test/java");
    private static final Path EXAMPLE = Path.of("build/readme");
    private static final Pattern PROMISE =
        Pattern.compile("\n## Promise (\\d+): [^\n]*\n+`([^`]+)`: (.*?)(?=\n## )", Pattern.DOTALL);
    private static final Pattern JAVA = Pattern.compile("```java\n(.*?)```", Pattern.DOTALL);
    private static final Pattern PRINTED = Pattern.compile("System\\.out\\.println\\(.*\\); *// ([^:]+)(: .*)?");

    private final Check check = new Check("ReadmeTest");
    private final String readme;
    private final String document;

    private ReadmeTest(String readme, String document) {
        this.readme = readme;
        this.document = document;
    }

    public static void main(String[] args) throws Exception {
        ReadmeTest test = new ReadmeTest(read(Path.of("README.md")), read(Path.of("../shared/DOC.md")));
        test.whatItIs();
        test.terms();
        test.promises();
        test.testsAreNamed();
        test.example();
        test.check.end();
    }

    private static String read(Path file) throws IOException {
        return Files.readString(file, StandardCharsets.UTF_8);
    }

    /** How lines are broken is free. */
    private static String flat(String text) {
        return text.replaceAll("\\s+", " ").trim();
    }

    private void told(String words) {
        check.tell(flat(readme).contains(flat(words)), "README.md doesn't say \"" + flat(words) + "\"");
    }

    private String between(String begin, String end) {
        int from = document.indexOf(begin);
        int to = document.indexOf(end, from + begin.length());
        check.tell(from >= 0 && to > from, "the document has no part from " + begin + " to " + end);
        return from >= 0 && to > from ? document.substring(from + begin.length(), to) : "";
    }

    private void whatItIs() {
        check.sentence("What it is", "A loom of detours.");
        for (String part : between("\n## What it is\n", "\n## ").trim().split("\n\n")) {
            told(part);
        }
    }

    private void terms() {
        check.sentence("Terms", "Roads lie between crossings like threads");
        int said = 0;
        for (String part : between("\n## Terms\n", "\n## ").trim().split("\n\n")) {
            if (!part.startsWith("Ahead of the calls ")) {
                told(part);
                said++;
            }
        }
        check.tell(said >= 10, "only " + said + " parts of the terms were found");
    }

    private void promises() {
        Matcher promise = PROMISE.matcher(document);
        int found = 0;
        while (promise.find()) {
            found++;
            check.sentence("Promise " + promise.group(1), promise.group(2));
            check.tell(flat(promise.group(3)).equals(sectionOf(promise.group(2))), "README.md says something else");
        }
        check.sentence("Promises", "1 to 34");
        check.due("promises found", found, 34);
        check.due("calls told", Pattern.compile("^#### ", Pattern.MULTILINE).matcher(readme).results().count(), 34);
    }

    /** What README.md says of a call, up to the next heading. */
    private String sectionOf(String call) {
        String heading = "\n#### `" + call + "`\n";
        int from = readme.indexOf(heading);
        if (from < 0) {
            return "nothing";
        }
        int begin = from + heading.length();
        int end = readme.indexOf("\n#", begin);
        return flat(end < 0 ? readme.substring(begin) : readme.substring(begin, end));
    }

    private void testsAreNamed() throws IOException {
        check.sentence("README.md", "how to run its tests");
        told(".ci/run");
        try (DirectoryStream<Path> files = Files.newDirectoryStream(TESTS, "*Test.java")) {
            for (Path file : files) {
                told("`" + file.getFileName().toString().replace(".java", "") + "`");
            }
        }
    }

    private void example() throws Exception {
        check.sentence("README.md", "an example that compiles and answers as it says");
        Matcher java = JAVA.matcher(readme);
        boolean found = java.find();
        check.tell(found, "there is no example");
        String program = found ? java.group(1) : "";
        Files.createDirectories(EXAMPLE);
        Path file = Files.writeString(EXAMPLE.resolve("Example.java"), program);
        int failed = ToolProvider.getSystemJavaCompiler().run(null, null, null,
            "-d", EXAMPLE.toString(), "-classpath", EXAMPLE.toString(), "-sourcepath", "src/main/java", file.toString());
        check.due("the compiler", failed, 0);
        if (failed == 0) {
            List<String> due = saidToBePrinted(program);
            check.tell(due.size() > 20, "only " + due.size() + " answers are said");
            check.tell(due.equals(printed()), "it printed " + printed() + ", due is " + due);
        }
    }

    private static List<String> saidToBePrinted(String program) {
        List<String> said = new ArrayList<>();
        for (String line : program.split("\n")) {
            if (line.contains("System.out")) {
                Matcher matcher = PRINTED.matcher(line.trim());
                said.add(matcher.matches() ? matcher.group(1).trim() : "no answer is said: " + line.trim());
            }
        }
        return said;
    }

    private static List<String> printed() throws Exception {
        ByteArrayOutputStream bytes = new ByteArrayOutputStream();
        PrintStream before = System.out;
        URL[] where = {EXAMPLE.toUri().toURL()};
        try (URLClassLoader loader = new URLClassLoader(where, ClassLoader.getPlatformClassLoader())) {
            System.setOut(new PrintStream(bytes, true, StandardCharsets.UTF_8));
            loader.loadClass("Example").getMethod("main", String[].class).invoke(null, (Object) new String[0]);
        } finally {
            System.setOut(before);
        }
        return bytes.toString(StandardCharsets.UTF_8).lines().toList();
    }
}
