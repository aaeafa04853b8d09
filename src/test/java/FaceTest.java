import java.lang.reflect.Constructor;
import java.lang.reflect.Field;
import java.lang.reflect.Method;
import java.lang.reflect.Modifier;
import java.util.Arrays;
import java.util.Set;
import java.util.TreeSet;

/** The public face: what the document lists, and nothing else that is not private. */
public final class FaceTest {
    private static final String INDEX = "IndexOutOfBoundsException";
    private static final String ARGUMENT = "IllegalArgumentException";
    private static final String STATE = "IllegalStateException";
    private static final String[] FACE = {
        "int stroke(int,int,int,int,int,boolean) throws " + INDEX + "," + ARGUMENT,
        "int difference(int,int) throws " + INDEX,
        "int width(int) throws " + INDEX,
        "int space(int,int,int) throws " + INDEX + "," + ARGUMENT,
        "int lead(int,int,int) throws " + INDEX,
        "void name(int,int,int) throws " + INDEX + "," + ARGUMENT,
        "int textWidth(int,int) throws " + ARGUMENT,
        "int cut(int,int,int,int,int) throws " + INDEX + "," + ARGUMENT + "," + STATE,
        "boolean remove(int,int) throws " + INDEX,
        "boolean isOld(int,int) throws " + INDEX,
        "int remake() throws " + STATE,
        "int read(int,int) throws " + INDEX,
        "long cost()",
        "int walk(int,int,int) throws " + INDEX + "," + ARGUMENT,
        "int walkBySteps(int,int,int) throws " + INDEX + "," + ARGUMENT,
        "int placeBehind(int,int,int,int) throws " + INDEX + "," + ARGUMENT,
    };

    public static void main(String[] args) {
        int kind = SignRail.class.getModifiers();
        Due.is("public final class", Modifier.isPublic(kind) && Modifier.isFinal(kind), true);
        Due.is("NONE", SignRail.NONE, -1);
        methods();
        fields();
        constructors();
        Due.end();
    }

    private static void methods() {
        Set<String> open = new TreeSet<>();
        Set<String> openNames = new TreeSet<>();
        for (Method method : SignRail.class.getDeclaredMethods()) {
            if (!Modifier.isPrivate(method.getModifiers())) {
                open.add(line(method));
                openNames.add(method.getName());
                Due.is(method.getName() + " is public and no more", method.getModifiers(), Modifier.PUBLIC);
            }
        }
        Set<String> due = new TreeSet<>(Arrays.asList(FACE));
        Due.is("methods " + open + " are those of the face", open.equals(due), true);
        for (Method method : SignRail.class.getDeclaredMethods()) {
            boolean bears = Modifier.isPrivate(method.getModifiers()) && openNames.contains(method.getName());
            Due.is("private " + method.getName() + " bears a public name", bears, false);
        }
    }

    private static String line(Method method) {
        StringBuilder line = new StringBuilder();
        line.append(method.getReturnType()).append(' ').append(method.getName()).append('(');
        String between = "";
        for (Class<?> type : method.getParameterTypes()) {
            line.append(between).append(type);
            between = ",";
        }
        line.append(')');
        between = " throws ";
        for (Class<?> thrown : method.getExceptionTypes()) {
            line.append(between).append(thrown.getSimpleName());
            between = ",";
        }
        return line.toString();
    }

    private static void fields() {
        for (Field field : SignRail.class.getDeclaredFields()) {
            int kind = field.getModifiers();
            boolean isFace = field.getName().equals("NONE");
            Due.is("field " + field.getName() + " is private", Modifier.isPrivate(kind), !isFace);
            Due.is("field " + field.getName() + " is public", Modifier.isPublic(kind), isFace);
            Due.is("static " + field.getName() + " not final", Modifier.isStatic(kind) && !Modifier.isFinal(kind), false);
        }
    }

    private static void constructors() {
        Constructor<?>[] all = SignRail.class.getDeclaredConstructors();
        Due.is("constructors", all.length, 1);
        Due.is("its parameters", all[0].getParameterCount(), 0);
        Due.is("it is public", Modifier.isPublic(all[0].getModifiers()), true);
    }
}
