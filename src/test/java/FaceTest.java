import java.io.IOException;
import java.lang.reflect.Constructor;
import java.lang.reflect.Field;
import java.lang.reflect.Method;
import java.lang.reflect.Modifier;
import java.nio.file.Files;
import java.nio.file.Path;
import java.util.ArrayList;
import java.util.List;
import java.util.Set;
import java.util.TreeSet;

/** The public face: the class, its constants, its constructor and its methods, and nothing else that is seen. */
public final class FaceTest {
    private static final String[] METHODS = {
        "int feed(int)", "int room()", "int stick(int,int,int)", "int of(int,int)", "int row(int,int,int)",
        "int wall()", "int at(int,int)", "int known(int,int,int)", "int told(int)",
        "int measure(int,int,int,int,boolean)", "int between(int,int,int,int)", "int surest(int,int,int)",
        "int twice(int,int,int)", "int again(int,int,int)", "int square(int,int,int)", "int step(int,int)",
        "int off(int)", "int closed(int)", "int cut(int)", "long cost(int,int)", "int cups(int,int,int)",
        "int mark(int)", "int whose(int)", "int wrong(int)", "long odds(int,int,int)", "long mean(int)",
        "int spread()", "int book(int,int)", "int looked()", "int act(int,int,int)", "int trace(int)",
        "int as(int,int)", "int image()", "int undo()", "int count(int)"
    };

    public static void main(String[] args) throws IOException {
        Due due = new Due();
        due.is("NONE", ThreeMeasures.NONE, -1);
        due.is("BAD", ThreeMeasures.BAD, -2);
        due.is("STATE", ThreeMeasures.STATE, -3);
        due.is("FULL", ThreeMeasures.FULL, -4);
        due.is("NO", ThreeMeasures.NO, Long.MIN_VALUE);
        int modifiers = ThreeMeasures.class.getModifiers();
        due.is("a public final class", Modifier.isPublic(modifiers) && Modifier.isFinal(modifiers) ? 1 : 0, 1);

        Set<String> wanted = new TreeSet<>(Set.of(METHODS));
        Set<String> seen = new TreeSet<>();
        Set<String> hidden = new TreeSet<>();
        for (Method method : ThreeMeasures.class.getDeclaredMethods()) {
            if (Modifier.isPrivate(method.getModifiers())) {
                hidden.add(method.getName());
            } else {
                seen.add(face(method));
            }
        }
        due.is("the methods are " + seen, seen.equals(wanted) ? 1 : 0, 1);
        for (String method : wanted) {
            String name = method.substring(method.indexOf(' ') + 1, method.indexOf('('));
            due.is("a private method named " + name, hidden.contains(name) ? 1 : 0, 0);
        }

        Set<String> fields = new TreeSet<>();
        for (Field field : ThreeMeasures.class.getDeclaredFields()) {
            if (!Modifier.isPrivate(field.getModifiers())) {
                fields.add(Modifier.toString(field.getModifiers()) + " " + field.getType() + " " + field.getName());
            }
        }
        due.is("the fields are " + fields, fields.equals(Set.of(
            "public static final int NONE", "public static final int BAD", "public static final int STATE",
            "public static final int FULL", "public static final long NO")) ? 1 : 0, 1);

        Constructor<?>[] constructors = ThreeMeasures.class.getDeclaredConstructors();
        due.is("constructors", constructors.length, 1);
        due.is("a public constructor without parameters",
            constructors[0].getParameterCount() == 0 && Modifier.isPublic(constructors[0].getModifiers()) ? 1 : 0, 1);
        for (Class<?> inside : ThreeMeasures.class.getDeclaredClasses()) {
            due.is("a class inside, private and static: " + inside,
                inside.getModifiers() & (Modifier.PUBLIC | Modifier.PROTECTED | Modifier.PRIVATE | Modifier.STATIC),
                Modifier.PRIVATE | Modifier.STATIC);
        }
        due.text("the face of the class, line by line",
            String.join("\n", faceLines("src/main/java/ThreeMeasures.java")) + "\n",
            String.join("\n", faceLines("../shared/DOC.md")) + "\n");
        due.text("what stands ahead of the calls", aheadOfCalls(), wantedAheadOfCalls());
        due.end();
    }

    /** The lines of the class or the document that begin with "public", to the constant's ; or the parameters' end. */
    private static List<String> faceLines(String file) throws IOException {
        List<String> lines = new ArrayList<>();
        for (String line : Files.readAllLines(Path.of(file))) {
            String bare = line.strip();
            if (bare.startsWith("public ")) {
                lines.add(bare.contains("=") ? bare : bare.replaceAll("\\)?( \\{|;)$", ""));
            }
        }
        return lines;
    }

    /** The "// ---- .." of the class, each with the public methods behind it. */
    private static String aheadOfCalls() throws IOException {
        StringBuilder text = new StringBuilder();
        for (String line : Files.readAllLines(Path.of("src/main/java/ThreeMeasures.java"))) {
            if (line.startsWith("    // ---- ")) {
                text.append(line.substring(7)).append(":\n");
            } else if (line.startsWith("    public ") && text.length() > 0) {
                text.append(line.replaceAll("^ *public \\w+ (\\w+)\\(.*$", "$1")).append('\n');
            }
        }
        return text.toString();
    }

    /** As the document has it: "Ahead of the calls `feed`, .. the interface says: ---- rooms, sticks, walls.". */
    private static String wantedAheadOfCalls() throws IOException {
        StringBuilder text = new StringBuilder();
        for (String line : Files.readAllLines(Path.of("../shared/DOC.md"))) {
            if (line.startsWith("Ahead of the calls ")) {
                String says = line.substring(line.indexOf("----"), line.length() - 1);
                text.append(says).append(":\n");
                for (String call : line.substring(0, line.indexOf(" the interface")).split("`, `|`")) {
                    text.append(call.startsWith("Ahead") ? "" : call + "\n");
                }
            }
        }
        return text.toString();
    }

    private static String face(Method method) {
        StringBuilder text = new StringBuilder();
        if (!Modifier.isPublic(method.getModifiers()) || Modifier.isStatic(method.getModifiers())) {
            text.append("not public or static: ");
        }
        text.append(method.getReturnType().getName()).append(' ').append(method.getName()).append('(');
        for (Class<?> type : method.getParameterTypes()) {
            if (text.charAt(text.length() - 1) != '(') {
                text.append(',');
            }
            text.append(type.getName());
        }
        return text.append(')').toString();
    }
}
