import java.io.IOException;
import java.nio.file.Files;
import java.nio.file.Path;
import java.util.ArrayList;
import java.util.List;
import java.util.regex.Matcher;
import java.util.regex.Pattern;

/**
 * Writes README.md's lines of Java, as they stand there, into a test of their own, which looks whether each call
 * answers what README.md says behind it. Two arguments: README.md, and the file to write, whose name is the class's.
 */
public final class ReadmeLines {
    /** A call whose answer gets a name, and the answer behind it: a number, or one of the document's constants. */
    private static final Pattern ANSWERED =
        Pattern.compile("(?:int|long) (\\w+) = x\\.(.*\\)); +// (-?\\d+|NONE|BAD|STATE|FULL|NO): .+");
    /** A line of Java that names no answer: a new object, a text, a loop over calls that are not looked at. */
    private static final Pattern PLAIN = Pattern.compile(
        "|// .*|ThreeMeasures x = new ThreeMeasures\\(\\);|String \\w+ = .*;|for \\(.*\\{| +x\\..*;|\\}");

    public static void main(String[] args) throws IOException {
        List<String> lines = javaLines(Files.readAllLines(Path.of(args[0])));
        Path file = Path.of(args[1]);
        String name = file.getFileName().toString().replace(".java", "");
        List<String> test = new ArrayList<>();
        test.add("public final class " + name + " {");
        test.add("    private static int wrong = 0;");
        test.add("    private static void due(String call, long got, long want) {");
        test.add("        if (got != want) {");
        test.add("            wrong++;");
        test.add("            System.out.println(call + \" answered \" + got + \", README.md says \" + want);");
        test.add("        }");
        test.add("    }");
        test.add("    public static void main(String[] args) {");
        int answers = 0;
        for (String line : lines) {
            test.add(line);
            Matcher answered = ANSWERED.matcher(line);
            if (answered.matches()) {
                answers++;
                test.add("due(\"" + answered.group(2).replace("\"", "\\\"") + "\", " + answered.group(1) + ", "
                    + wanted(answered.group(3)) + ");");
            } else if (!PLAIN.matcher(line).matches()) {
                fail("README.md does not say what this line answers: " + line);
            }
        }
        if (answers == 0) {
            fail("README.md gives no lines of Java with what they answer");
        }
        test.add("        System.out.println(wrong == 0 ? \"" + answers + " answers as README.md says\" : \"\");");
        test.add("        System.exit(wrong == 0 ? 0 : 1);");
        test.add("    }");
        test.add("}");
        Files.write(file, test);
    }

    private static List<String> javaLines(List<String> readme) {
        List<String> lines = new ArrayList<>();
        boolean inside = false;
        for (String line : readme) {
            if (line.startsWith("```")) {
                inside = line.equals("```java");
            } else if (inside) {
                lines.add(line);
            }
        }
        return lines;
    }

    private static String wanted(String answer) {
        return Character.isLetter(answer.charAt(0)) ? "ThreeMeasures." + answer : answer + "L";
    }

    private static void fail(String why) {
        System.out.println(why);
        System.exit(1);
    }
}
