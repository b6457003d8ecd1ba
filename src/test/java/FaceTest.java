import java.lang.reflect.Constructor;
import java.lang.reflect.Field;
import java.lang.reflect.Method;
import java.lang.reflect.Modifier;
import java.util.Set;
import java.util.TreeSet;

/** The public face: the class, its constants, its constructor and its methods, and nothing else that is seen. */
public final class FaceTest {
    private static final String[] METHODS = {
        "int feed(int)", "int room()", "int stick(int,int,int)", "int of(int,int)", "int row(int,int,int)",
        "int wall()", "int at(int,int)", "int known(int,int,int)", "int told(int)",
        "int measure(int,int,int,int,boolean)", "int between(int,int,int,int)", "int surest(int,int,int)",
        "int twice(int,int,int)", "int again(int,int,int)", "int square(int,int,int)", "int step(int,int)",
        "int off(int)", "int closed(int)", "int cut(int)", "long cost(int,int)", "int cups(int,int,int)",
        "int mark(int)", "int whose(int)", "int wrong(int)", "long odds(int,int,int)", "long mean(int)",
        "int spread()", "int book(int,int)", "int looked()", "int act(int,int,int)", "int trace(int)",
        "int as(int,int)", "int image()", "int undo()", "int count(int)"
    };

    public static void main(String[] args) {
        Due due = new Due();
        due.is("NONE", ThreeMeasures.NONE, -1);
        due.is("BAD", ThreeMeasures.BAD, -2);
        due.is("STATE", ThreeMeasures.STATE, -3);
        due.is("FULL", ThreeMeasures.FULL, -4);
        due.is("NO", ThreeMeasures.NO, Long.MIN_VALUE);
        int modifiers = ThreeMeasures.class.getModifiers();
        due.is("a public final class", Modifier.isPublic(modifiers) && Modifier.isFinal(modifiers) ? 1 : 0, 1);

        Set<String> wanted = new TreeSet<>(Set.of(METHODS));
        Set<String> seen = new TreeSet<>();
        Set<String> hidden = new TreeSet<>();
        for (Method method : ThreeMeasures.class.getDeclaredMethods()) {
            if (Modifier.isPrivate(method.getModifiers())) {
                hidden.add(method.getName());
            } else {
                seen.add(face(method));
            }
        }
        due.is("the methods are " + seen, seen.equals(wanted) ? 1 : 0, 1);
        for (String method : wanted) {
            String name = method.substring(method.indexOf(' ') + 1, method.indexOf('('));
            due.is("a private method named " + name, hidden.contains(name) ? 1 : 0, 0);
        }

        Set<String> fields = new TreeSet<>();
        for (Field field : ThreeMeasures.class.getDeclaredFields()) {
            if (!Modifier.isPrivate(field.getModifiers())) {
                fields.add(Modifier.toString(field.getModifiers()) + " " + field.getType() + " " + field.getName());
            }
        }
        due.is("the fields are " + fields, fields.equals(Set.of(
            "public static final int NONE", "public static final int BAD", "public static final int STATE",
            "public static final int FULL", "public static final long NO")) ? 1 : 0, 1);

        Constructor<?>[] constructors = ThreeMeasures.class.getDeclaredConstructors();
        due.is("constructors", constructors.length, 1);
        due.is("a public constructor without parameters",
            constructors[0].getParameterCount() == 0 && Modifier.isPublic(constructors[0].getModifiers()) ? 1 : 0, 1);
        due.end();
    }

    private static String face(Method method) {
        StringBuilder text = new StringBuilder();
        if (!Modifier.isPublic(method.getModifiers()) || Modifier.isStatic(method.getModifiers())) {
            text.append("not public or static: ");
        }
        text.append(method.getReturnType().getName()).append(' ').append(method.getName()).append('(');
        for (Class<?> type : method.getParameterTypes()) {
            if (text.charAt(text.length() - 1) != '(') {
                text.append(',');
            }
            text.append(type.getName());
        }
        return text.append(')').toString();
    }
}
