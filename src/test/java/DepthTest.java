import java.io.IOException;
import java.nio.charset.StandardCharsets;
import java.nio.file.Files;
import java.nio.file.Path;
import java.util.ArrayList;
import java.util.HashMap;
import java.util.LinkedHashSet;
import java.util.List;
import java.util.Map;
import java.util.Set;
import java.util.TreeSet;
import java.util.regex.Matcher;
import java.util.regex.Pattern;

/** Rule 11 of LANGUAGE.md, by the names that stand in the text: calls go at most eight deep, each method counted once. */
public final class DepthTest {
    private static final int MOST = 8;

    /** Each method's name, with the names in its body; methods of one name are taken together. */
    private final Map<String, Set<String>> calls = new HashMap<>();

    public static void main(String[] args) throws IOException {
        String text = Files.readString(Path.of("src/main/java/StormHats.java"), StandardCharsets.UTF_8);
        DepthTest test = new DepthTest();
        test.read(text.replaceAll("(?s)/\\*.*?\\*/", "").replaceAll("//[^\n]*", "").split("\n"));
        Check.due("methods were found", test.calls.size() > 100 ? 1 : 0, 1);
        for (String name : new TreeSet<>(test.calls.keySet())) {
            List<String> way = test.longestFrom(name, new LinkedHashSet<>());
            Check.due("calls " + way + " are deeper than eight", way.size() > MOST ? 1 : 0, 0);
        }
        Check.end();
    }

    private void read(String[] lines) {
        Pattern head = Pattern.compile("^( {4}| {8})(?! |.*\\b(?:class|if|for|while|do|switch|return|else|case)\\b)"
                + "[^=;]*?(\\w+)\\([^;]*");
        Pattern call = Pattern.compile("\\b(\\w+)\\(");
        for (int i = 0; i < lines.length; i++) {
            Matcher m = head.matcher(lines[i]);
            if (!m.matches()) {
                continue;
            }
            Set<String> called = calls.computeIfAbsent(m.group(2), name -> new TreeSet<>());
            for (int j = i + 1; j < lines.length && !lines[j].equals(m.group(1) + "}"); j++) {
                Matcher c = call.matcher(lines[j]);
                while (c.find()) {
                    called.add(c.group(1));
                }
            }
        }
    }

    private List<String> longestFrom(String name, Set<String> open) {
        List<String> longest = new ArrayList<>();
        open.add(name);
        for (String next : calls.get(name)) {
            if (calls.containsKey(next) && !open.contains(next)) {
                List<String> way = longestFrom(next, open);
                longest = way.size() > longest.size() ? way : longest;
            }
        }
        open.remove(name);
        List<String> all = new ArrayList<>(List.of(name));
        all.addAll(longest);
        return all;
    }
}
