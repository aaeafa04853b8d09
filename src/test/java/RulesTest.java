import java.io.IOException;
import java.lang.reflect.Field;
import java.lang.reflect.Modifier;
import java.nio.file.Files;
import java.nio.file.Path;
import java.util.Arrays;
import java.util.HashSet;
import java.util.LinkedHashMap;
import java.util.List;
import java.util.Map;
import java.util.Set;
import java.util.TreeSet;
import java.util.regex.Matcher;
import java.util.regex.Pattern;

/**
 * Those rules of ../shared/LANGUAGE.md that the text of the class shows. It is read as it is written now: one class
 * without classes inside, no two methods of one name, each method's end by a brace four signs in.
 */
public final class RulesTest {
    private static final Path SOURCE = Path.of("src/main/java/SignRail.java");
    private static final Set<String> LIBRARY = Set.of("Arrays.fill", "Math.abs", "Math.max", "Integer.bitCount");
    private static final Set<String> THROWN =
            Set.of("IndexOutOfBoundsException", "IllegalArgumentException", "IllegalStateException");
    private static final Pattern FORBIDDEN = Pattern.compile("->|::|[/%]|\\b(try|catch|finally|synchronized|assert"
            + "|instanceof|package|protected|native|volatile|transient|float|double|System|Object|String)\\b|static \\{");
    private static final Pattern METHOD =
            Pattern.compile("^    (?:public|private)[^=;(\\n]*?(\\w+)\\(([^)]*)\\)[^{;]*\\{\\n(.*?)^    \\}$",
                    Pattern.MULTILINE | Pattern.DOTALL);
    private static final Pattern CALL = Pattern.compile("(new )?((?:[A-Z]\\w*\\.)?\\w+)\\(");
    private static final Set<String> WORDS = Set.of("if", "for", "while", "switch", "return");

    private final String code;
    private final Map<String, String> bodies = new LinkedHashMap<>();

    private RulesTest(String text) {
        code = text.replaceAll("(?s)/\\*.*?\\*/|//[^\\n]*", "").replaceAll("\"[^\"\\n]*\"", "\"\"");
    }

    public static void main(String[] args) throws IOException {
        String text = Files.readString(SOURCE);
        Due.sentence("LANGUAGE.md 3: characters");
        Due.is("each is 1 to 127", text.chars().allMatch(sign -> sign >= 1 && sign <= 127), true);
        RulesTest rules = new RulesTest(text);
        rules.words();
        rules.methods();
        rules.calls();
        rules.depths();
        rules.fields();
        Due.end();
    }

    private void words() {
        Due.sentence("LANGUAGE.md: words that the class does without");
        Matcher found = FORBIDDEN.matcher(code);
        while (found.find()) {
            Due.is("is there: " + found.group(), true, false);
        }
        Due.sentence("LANGUAGE.md 4: imports");
        Due.is("imports", code.split("\\bimport ").length - 1, 1);
        Due.is("it is of Arrays", code.contains("import java.util.Arrays;"), true);
        Due.sentence("LANGUAGE.md 1: one class, without classes inside");
        Due.is("classes", code.split("\\b(class|record|enum|interface) ").length - 1, 1);
    }

    private void methods() {
        Due.sentence("LANGUAGE.md 11: short methods, seven parameters");
        Matcher method = METHOD.matcher(code);
        while (method.find()) {
            String name = method.group(1);
            String body = method.group(3);
            Due.is(name + " is the only one of its name", bodies.put(name, body) == null, true);
            Due.is(name + " has at most seven parameters", method.group(2).split(",").length <= 7, true);
            Due.is(name + " has at most sixty lines", body.split("\n").length <= 60, true);
        }
        int declared = SignRail.class.getDeclaredMethods().length + SignRail.class.getDeclaredConstructors().length;
        Due.is("all methods were found", bodies.size(), declared);
    }

    private void calls() {
        Due.sentence("LANGUAGE.md 4 and 6: calls of its own methods and of the listed ones, exceptions of the listed kinds");
        for (String name : bodies.keySet()) {
            for (String called : calledBy(name)) {
                boolean isMade = called.startsWith("new ") && THROWN.contains(called.substring(4));
                boolean isKnown = bodies.containsKey(called) || LIBRARY.contains(called);
                Due.is(name + " calls " + called + ", which it may", isMade || isKnown, true);
            }
        }
        String constructor = bodies.getOrDefault("SignRail", "throw");
        Due.is("the constructor throws nothing", constructor.contains("throw"), false);
    }

    private Set<String> calledBy(String name) {
        Set<String> all = new TreeSet<>();
        Matcher call = CALL.matcher(bodies.get(name));
        while (call.find()) {
            if (!WORDS.contains(call.group(2))) {
                all.add((call.group(1) == null ? "" : "new ") + call.group(2));
            }
        }
        return all;
    }

    private void depths() {
        Due.sentence("LANGUAGE.md 8 and 11: calls go at most eight deep, the library's counted, and none comes back");
        for (String name : bodies.keySet()) {
            Due.is(name + " goes at most eight deep", depth(name, new HashSet<>()) <= 8, true);
        }
    }

    private int depth(String name, Set<String> open) {
        if (!bodies.containsKey(name)) {
            return 1;
        }
        if (!open.add(name)) {
            return 1000;
        }
        int deepest = 0;
        for (String called : calledBy(name)) {
            deepest = Math.max(deepest, depth(called, open));
        }
        open.remove(name);
        return deepest + 1;
    }

    private void fields() {
        Due.sentence("LANGUAGE.md 3, 5 and 11: fields");
        List<String> kinds = Arrays.asList("int", "long", "int[]");
        int many = 0;
        for (Field field : SignRail.class.getDeclaredFields()) {
            boolean isStatic = Modifier.isStatic(field.getModifiers());
            many += isStatic ? 0 : 1;
            String kind = field.getType().getSimpleName();
            Due.is(field.getName() + " is a number or a row", isStatic ? kind.equals("int") : kinds.contains(kind), true);
        }
        Due.is("some twenty fields", many <= 20, true);
    }
}
