import java.io.File;
import java.io.IOException;
import java.lang.reflect.InvocationTargetException;
import java.lang.reflect.Method;
import java.lang.reflect.Modifier;
import java.nio.charset.StandardCharsets;
import java.nio.file.Files;
import java.nio.file.Path;
import java.util.Set;
import java.util.TreeSet;
import java.util.regex.Matcher;
import java.util.regex.Pattern;

/** README.md tells the truth: its example is run line by line, and its tables name what is there, all and nothing else. */
public final class ReadmeTest {
    private static final Pattern CALL = Pattern.compile("(?m)^x\\.(\\w+)\\((.*)\\); // (-?\\d+|\\w+Exception)\\b.*$");
    private static final Pattern TEXT = Pattern.compile("put\\(x, \"([^\"]*)\"\\)");

    public static void main(String[] args) throws IOException {
        String page = Files.readString(Path.of("README.md"), StandardCharsets.UTF_8);
        runExample(page);
        Set<String> calls = new TreeSet<>();
        for (Method m : StormHats.class.getDeclaredMethods()) {
            if (Modifier.isPublic(m.getModifiers())) {
                calls.add(m.getName());
            }
        }
        Check.same("calls", named(page, "| what for |", "`(\\w+)`").toString(), calls.toString());
        Set<String> classes = new TreeSet<>();
        for (Class<?> c : StormHats.class.getDeclaredClasses()) {
            classes.add(c.getSimpleName());
        }
        Check.same("classes", named(page, "| class inside |", "(?m)^\\| (\\w+) \\|").toString(), classes.toString());
        Set<String> tests = new TreeSet<>();
        for (String file : new File("src/test/java").list()) {
            if (file.endsWith("Test.java")) {
                tests.add(file.substring(0, file.length() - ".java".length()));
            }
        }
        Check.same("tests", named(page, "| test |", "(?m)^\\| (\\w+) \\|").toString(), tests.toString());
        Check.end();
    }

    private static void runExample(String page) {
        int start = page.indexOf("StormHats x = new StormHats();");
        int end = page.indexOf("```", Math.max(0, start));
        Check.due("an example stands there", start >= 0 && end > start ? 1 : 0, 1);
        String example = page.substring(Math.max(0, start), Math.max(0, end));
        StormHats x = new StormHats();
        Matcher line = CALL.matcher(example);
        int lines = 1;
        while (line.find()) {
            lines++;
            Check.same(line.group(), answerOf(x, line.group(1), line.group(2)), line.group(3));
        }
        Check.due("lines of the example that were understood", lines, example.lines().count());
    }

    private static String answerOf(StormHats x, String name, String arguments) {
        Matcher text = TEXT.matcher(arguments);
        String[] words = text.matches() ? new String[] {Integer.toString(Check.feed(x, text.group(1)))}
                : arguments.isEmpty() ? new String[0] : arguments.split(", ");
        Class<?>[] types = new Class<?>[words.length];
        Object[] values = new Object[words.length];
        for (int i = 0; i < words.length; i++) {
            types[i] = int.class;
            values[i] = Integer.parseInt(words[i]);
        }
        try {
            return StormHats.class.getMethod(name, types).invoke(x, values).toString();
        } catch (InvocationTargetException e) {
            return e.getCause().getClass().getSimpleName();
        } catch (ReflectiveOperationException e) {
            return e.toString();
        }
    }

    /** What the rows of a table name, the table's head and the line below it left out. */
    private static Set<String> named(String page, String head, String pattern) {
        Set<String> names = new TreeSet<>();
        int start = page.indexOf(head);
        Check.due("a table begins with " + head, start >= 0 ? 1 : 0, 1);
        int rows = page.indexOf("\n| --- |", Math.max(0, start)) + 1;
        int end = page.indexOf("\n\n", rows);
        Matcher name = Pattern.compile(pattern).matcher(page.substring(rows, end < 0 ? page.length() : end));
        while (name.find()) {
            names.add(name.group(1));
        }
        return names;
    }
}
