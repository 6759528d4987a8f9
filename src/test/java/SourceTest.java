import java.io.IOException;
import java.nio.charset.StandardCharsets;
import java.nio.file.Files;
import java.nio.file.Path;
import java.util.List;
import java.util.regex.Matcher;
import java.util.regex.Pattern;

/** What can be seen of LANGUAGE.md's rules in the text of the class, without comments and written texts. */
public final class SourceTest {
    private static final Path SOURCE = Path.of("src/main/java/DetourLoom.java");
    private static final Pattern COMMENT_OR_TEXT = Pattern.compile("/\\*.*?\\*/|//[^\n]*|\"[^\"\n]*\"", Pattern.DOTALL);
    /** How a method begins, of the class or of one inside it; what else is found has an end as well. */
    private static final Pattern BEGINS = Pattern.compile("( {4}| {8})\\S.*\\(.*[^;]");

    private final Check check = new Check("SourceTest");
    private final String text;

    private SourceTest(String text) {
        this.text = text;
    }

    public static void main(String[] args) throws IOException {
        String whole = Files.readString(SOURCE, StandardCharsets.UTF_8);
        SourceTest test = new SourceTest(COMMENT_OR_TEXT.matcher(whole).replaceAll(""));
        test.onlyAscii(whole);
        test.libraryOfRule4();
        test.exceptionsOfRule6();
        test.nothingThatRulesForbid();
        test.sizesOfRule11();
        test.check.end();
    }

    private void onlyAscii(String whole) {
        check.sentence("LANGUAGE.md, rule 4", "constants, whose signs are 1 to 127");
        check.due("other signs", whole.chars().filter(c -> c < 1 || c > 127).count(), 0);
    }

    private void libraryOfRule4() {
        check.sentence("LANGUAGE.md, rule 4", "only what stands here");
        none("\\b(import|package)\\b");
        none("\\bSystem\\.(?!arraycopy\\b)");
        none("\\bArrays\\.(?!copyOf\\b|copyOfRange\\b|fill\\b)");
        none("\\bMath\\.(?!max\\b|min\\b|abs\\b|floorDiv\\b|floorMod\\b)");
        none("\\b(Object|Thread|Runtime|Class|Random|Scanner|Map|Set|HashMap|Optional|Stream)\\b");
    }

    private void exceptionsOfRule6() {
        check.sentence("LANGUAGE.md, rule 6", "E one of");
        none("\\bthrow\\b(?! new (IllegalState|IllegalArgument|IndexOutOfBounds)Exception\\(\\);)");
        none("\\b(ArrayIndexOutOfBounds|NullPointer|Arithmetic|ClassCast|NegativeArraySize|ArrayStore)Exception\\b");
        none("\\bcatch \\((RuntimeException|Exception|Throwable|Error)\\b");
        none("\\b(finally|synchronized|assert)\\b|\\btry \\(");
        none("\\b(equals|hashCode|toString)\\(\\) *\\{");
    }

    private void nothingThatRulesForbid() {
        check.sentence("LANGUAGE.md, rule 2", "no lambda, no method reference");
        none("->|::");
        check.sentence("LANGUAGE.md, rule 5", "no static initialiser block");
        none("\\bstatic *\\{");
        check.sentence("LANGUAGE.md, rule 9", "Every loop has an end that can be seen from its own lines");
        none("\\bwhile *\\(true\\)|\\bfor *\\(;;\\)|\\bfor *\\([^;)]*; *;");
    }

    private void sizesOfRule11() {
        check.sentence("LANGUAGE.md, rule 11", "the file has at most some twelve classes");
        check.tell(count("\\b(class|enum|interface|record) +\\w+[^;]*?\\{") <= 12, "there are more");
        check.sentence("LANGUAGE.md, rule 11", "Methods stay short (some sixty lines)");
        List<String> lines = text.lines().toList();
        int seen = 0;
        for (int first = 0; first < lines.size(); first++) {
            String line = lines.get(first);
            if (BEGINS.matcher(line).matches()) {
                int last = lines.subList(first, lines.size()).indexOf(indentOf(line) + "}");
                check.tell(last >= 0 && last < 60, line.trim() + " takes " + last + " lines");
                seen++;
            }
        }
        check.tell(seen >= 34, "only " + seen + " methods were found");
    }

    private static String indentOf(String line) {
        return line.substring(0, line.length() - line.stripLeading().length());
    }

    private void none(String what) {
        check.due(what, count(what), 0);
    }

    private int count(String what) {
        Matcher matcher = Pattern.compile(what).matcher(text);
        int found = 0;
        while (matcher.find()) {
            found++;
        }
        return found;
    }
}
