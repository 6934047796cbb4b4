import java.io.IOException;
import java.lang.reflect.Field;
import java.lang.reflect.Method;
import java.lang.reflect.Modifier;
import java.nio.file.Files;
import java.nio.file.Path;
import java.util.ArrayList;
import java.util.List;
import java.util.Set;
import java.util.regex.Matcher;
import java.util.regex.Pattern;

/** The rules of LANGUAGE.md that can be seen from the class and from its text. */
public final class LanguageTest {
    private static final Path SOURCE = Path.of("src/main/java/GaugeBook.java");
    private static final int MOST_CLASSES = 12;
    private static final int MOST_FIELDS = 20;
    private static final int MOST_PARAMETERS = 7;
    private static final int MOST_LINES = 60;

    private static final Set<String> IMPORTS = Set.of("java.util.ArrayList", "java.util.List", "java.util.Arrays",
            "java.util.Iterator", "java.util.NoSuchElementException");
    private static final Set<Class<?>> CONSTANTS = Set.of(int.class, long.class, boolean.class, char.class,
            String.class, int[].class, long[].class, char[].class, byte[].class);
    private static final Set<Class<?>> LIBRARY = Set.of(String.class, StringBuilder.class, ArrayList.class,
            List.class);
    private static final Set<String> THROWN = Set.of("IllegalStateException", "IllegalArgumentException",
            "IndexOutOfBoundsException");

    /** Word or sign, and the rule that leaves it out. */
    private static final String[] LEFT_OUT = {
        "\\bpackage\\b", "rule 1",
        "(?<!case [\\w, ]{1,60}|default )->|::", "rule 2",
        "\\bvar\\b", "rule 3",
        "Exact\\(", "rule 4",
        "Math\\.(?!max|min|abs|floorDiv|floorMod)", "rule 4",
        "System\\.(?!arraycopy)", "rule 4",
        "Arrays\\.(?!copyOf|copyOfRange|fill)", "rule 4",
        "String\\.(?:format|valueOf|join)", "rule 4",
        "\\bstatic \\{", "rule 5",
        "\\bcatch \\((?!Illegal(?:Argument|State)Exception \\w+\\))", "rule 6",
        "\\b(?:finally|synchronized|assert)\\b", "rule 6",
        "\\bextends \\w*(?:Exception|Error)", "rule 6",
        "\\b(?:equals|hashCode|toString)\\(\\w* ?\\w*\\) \\{", "rule 6",
        "\"\" ?\\+|\\+ ?\"\"", "rule 10",
        "\\b(?:Thread|Random|Runtime|Instant|nanoTime|currentTimeMillis)\\b", "rule 13"};

    public static void main(String[] args) throws IOException {
        String text = withoutCommentsAndTexts(Files.readString(SOURCE));
        checkWords(text);
        checkThrows(text);
        checkLengths(text);
        checkClasses();
        Run.finish();
    }

    private static String withoutCommentsAndTexts(String source) {
        String ours = "(?s)/\\*.*?\\*/|//[^\n]*";
        String uncommented = Pattern.compile(ours).matcher(source).replaceAll(
                comment -> comment.group().replaceAll("[^\n]", ""));
        return uncommented.replaceAll("\"[^\"\n]*\"", "\"\"");
    }

    private static void checkWords(String text) {
        for (int i = 0; i < LEFT_OUT.length; i += 2) {
            Matcher found = Pattern.compile(LEFT_OUT[i]).matcher(text);
            boolean holds = !found.find();
            Run.demand(LEFT_OUT[i + 1] + (holds ? "" : " leaves out " + found.group()), holds);
        }
        Matcher imported = Pattern.compile("import ([^;]*);").matcher(text);
        while (imported.find()) {
            Run.demand("rule 4 leaves out " + imported.group(1), IMPORTS.contains(imported.group(1)));
        }
    }

    /** The face names three exceptions; each is made where it is thrown, with a written text or none. */
    private static void checkThrows(String text) {
        Matcher thrown = Pattern.compile("\\bthrow\\b([^;]*);").matcher(text);
        Pattern due = Pattern.compile(" new (\\w+)\\((?:\"\")?\\)");
        while (thrown.find()) {
            Matcher exception = due.matcher(thrown.group(1));
            Run.demand("rule 6: " + thrown.group(), exception.matches() && THROWN.contains(exception.group(1)));
        }
    }

    private static void checkLengths(String text) {
        String[] lines = text.split("\n");
        Pattern head = Pattern.compile("( +)(?!.*\\b(?:class|record|enum|interface|new) ).*\\b\\w+\\(.*\\{");
        for (int first = 0; first < lines.length; first++) {
            Matcher method = head.matcher(lines[first]);
            if (method.matches() && method.group(1).length() <= 8) {
                int last = first;
                while (last < lines.length && !lines[last].equals(method.group(1) + "}")) {
                    last++;
                }
                Run.demand("rule 11: " + lines[first].trim() + " is long", last - first < MOST_LINES);
            }
        }
    }

    private static void checkClasses() {
        Class<?>[] inside = GaugeBook.class.getDeclaredClasses();
        Run.demand("rule 1: the class is in a package", GaugeBook.class.getPackageName().isEmpty());
        Run.demand("rule 11: " + inside.length + " classes", inside.length < MOST_CLASSES);
        checkMembers(GaugeBook.class);
        for (Class<?> one : inside) {
            int modifiers = one.getModifiers();
            Run.demand("rule 1: " + one + " is not static, or can be seen", Modifier.isStatic(modifiers)
                    && !Modifier.isPublic(modifiers) && !Modifier.isProtected(modifiers));
            checkMembers(one);
        }
    }

    private static void checkMembers(Class<?> one) {
        int fields = 0;
        for (Field field : one.getDeclaredFields()) {
            Class<?> type = field.getType();
            if (Modifier.isStatic(field.getModifiers())) {
                Run.demand("rule 5: " + field, Modifier.isFinal(field.getModifiers())
                        && isConstant(type));
            } else {
                fields++;
                Run.demand("rule 3: " + field, isAllowed(type));
            }
        }
        Run.demand("rule 11: " + one + " has " + fields + " fields", fields <= MOST_FIELDS);
        for (Method method : one.getDeclaredMethods()) {
            Run.demand("rule 11: " + method, method.getParameterCount() <= MOST_PARAMETERS);
            Run.demand("rule 3: " + method, method.getReturnType() == void.class || isAllowed(method.getReturnType()));
        }
    }

    private static boolean isConstant(Class<?> type) {
        Class<?> element = type.isArray() ? type.getComponentType() : type;
        return CONSTANTS.contains(type) || element.isEnum();
    }

    /** Two dimensions are for numbers alone. */
    private static boolean isAllowed(Class<?> type) {
        Class<?> element = type.isArray() ? type.getComponentType() : type;
        if (element.isArray()) {
            return element.getComponentType().isPrimitive();
        }
        return element.isPrimitive() || LIBRARY.contains(type) || element.getName().startsWith("GaugeBook");
    }
}
