import java.io.IOException;
import java.lang.reflect.Method;
import java.lang.reflect.Modifier;
import java.nio.file.Files;
import java.nio.file.Path;
import java.util.List;
import java.util.Set;
import java.util.TreeSet;
import java.util.regex.Matcher;
import java.util.regex.Pattern;

/** The example of README.md: each call answers what stands behind it, and no call of the face is left out. */
public final class ReadmeTest {
    private static final Path README = Path.of("README.md");
    private static final Pattern ROW = Pattern.compile("book\\.((\\w+)\\(.*\\)); +// (\\S+).*");

    public static void main(String[] args) throws IOException {
        String[] example = example(Files.readAllLines(README));
        Run.demand("the example does not begin with a new book",
                example.length > 0 && example[0].equals("GaugeBook book = new GaugeBook();"));
        Run run = new Run("README: the example");
        Set<String> called = new TreeSet<>(Set.of("digest"));
        for (int i = 1; i < example.length; i++) {
            Matcher row = ROW.matcher(example[i]);
            if (row.matches()) {
                run.due(row.group(1), row.group(3));
                called.add(row.group(2));
            } else {
                Run.demand("no call with its answer: " + example[i], example[i].isEmpty());
            }
        }
        Run.demand("the example calls " + called + " alone", called.equals(face()));
        Run.finish();
    }

    /** The lines of the first block of Java. */
    private static String[] example(List<String> lines) {
        int first = lines.indexOf("```java") + 1;
        List<String> rest = lines.subList(first, lines.size());
        int end = rest.indexOf("```");
        return first == 0 || end < 0 ? new String[0] : rest.subList(0, end).toArray(new String[0]);
    }

    private static Set<String> face() {
        Set<String> names = new TreeSet<>();
        for (Method method : GaugeBook.class.getDeclaredMethods()) {
            if (Modifier.isPublic(method.getModifiers())) {
                names.add(method.getName());
            }
        }
        return names;
    }
}
