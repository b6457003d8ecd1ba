import java.io.IOException;
import java.nio.file.Files;
import java.nio.file.Path;
import java.util.regex.Matcher;
import java.util.regex.Pattern;

/** What ../shared/LANGUAGE.md leaves out, as far as the words of the class tell it. */
public final class LanguageTest {
    private static final Due due = new Due();

    public static void main(String[] args) throws IOException {
        String source = Files.readString(Path.of("src/main/java/ThreeMeasures.java"));
        String code = source.replaceAll("(?s)/\\*.*?\\*/", " ").replaceAll("//[^\n]*", " ");
        String plain = code.replaceAll("'(\\\\.|[^'\\\\])'", "0").replaceAll("\"(\\\\.|[^\"\\\\])*\"", "TEXT");

        none(plain, "4: another import", "import (?!java\\.util\\.(Arrays|ArrayList|List|Iterator);)[^;]*;");
        none(plain, "1: a package", "\\bpackage\\b");
        none(plain, "6: throw and the like", "\\b(throw|throws|try|catch|finally|synchronized|assert)\\b");
        none(plain, "6: equals and the like of its own", "\\b(boolean equals|int hashCode|String toString)\\b");
        none(plain, "2: a lambda", "->");
        none(plain, "2: a method reference", "::");
        none(plain, "4: an annotation", "@");
        none(plain, "5: a static initialiser", "\\bstatic\\s*\\{");
        none(plain, "5: static state", "\\bstatic\\s+(?!final\\b|class\\b|abstract\\b)[\\w\\[\\]<>]+\\s+\\w+\\s*[=;]");
        none(plain, "4: a static function whose name ends in Exact", "Exact\\b");
        none(plain, "13: clocks and chance", "\\b(System\\.(?!arraycopy)|Random|Thread|Runtime|Process)");
        none(plain, "10: texts joined by +", "TEXT\\s*\\+|\\+=?\\s*TEXT");
        none(plain, "3: float or double", "\\b(float|double|Object|Integer|Long\\.(?!MIN_VALUE))\\b");
        none(plain, "2: a class inside that is not static",
            "\\n {4,}(?!.*\\bstatic\\b)[a-z ]*\\b(class|record|enum|interface)\\s+\\w+[^\\n]*\\{");
        none(source, "3: a sign beyond 127", "[^\\x00-\\x7f]");

        due.is("11: some twelve classes", count(plain, "\\b(class|record|enum|interface)\\s+[A-Z]\\w*") <= 12 ? 1 : 0, 1);
        due.is("a line is no longer than 120", count(source, "[^\\n]{121}"), 0);
        due.end();
    }

    private static void none(String text, String what, String pattern) {
        Matcher matcher = Pattern.compile(pattern).matcher(text);
        due.is("rule " + what + (matcher.find() ? ": " + matcher.group() : ""), count(text, pattern), 0);
    }

    private static int count(String text, String pattern) {
        int count = 0;
        Matcher matcher = Pattern.compile(pattern).matcher(text);
        while (matcher.find()) {
            count++;
        }
        return count;
    }
}
