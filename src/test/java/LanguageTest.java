import java.io.IOException;
import java.nio.charset.StandardCharsets;
import java.nio.file.Files;
import java.nio.file.Path;
import java.util.List;
import java.util.regex.Matcher;
import java.util.regex.Pattern;

/** Rules of LANGUAGE.md that a look at the text can tell. */
public final class LanguageTest {
    private static final String[] FORBIDDEN = {
        "->", "::", "\\bfinally\\b", "\\bsynchronized\\b", "\\bassert\\b", "Exact\\(", "\\bcatch\\b", "\\btry\\b",
        "\\bpackage\\b", "\\bdouble\\b", "\\bfloat\\b", "\\bSystem\\.(?!arraycopy)", "\\bObject\\b", "\\bvar\\b",
        "\\bhashCode\\b", "\\btoString\\b", "\\bprotected\\b", "\\bstatic \\{", "\\[\\]\\[\\]\\[\\]", "\\bwhile \\(true\\)",
        "\\bfor \\(;;\\)", "\\bInteger\\.(?!bitCount\\()", "\\bLong\\.", "\\bMath\\.(?!(min|max|abs)\\()",
        "\\bArrays\\.(?!fill\\()", "\\bString\\.",
    };
    private static final List<String> IMPORTS = List.of("java.util.Arrays", "java.util.NoSuchElementException");

    public static void main(String[] args) throws IOException {
        String text = Files.readString(Path.of("src/main/java/StormHats.java"), StandardCharsets.UTF_8);
        Check.due("signs 10, 32 to 126 alone", text.chars().filter(c -> c != 10 && (c < 32 || c > 126)).count(), 0);
        String bare = text.replaceAll("(?s)/\\*.*?\\*/", "").replaceAll("//[^\n]*", "").replaceAll("\"[^\"\n]*\"", "\"\"");
        for (String no : FORBIDDEN) {
            Check.due("stands there: " + no, Pattern.compile(no).matcher(bare).find() ? 1 : 0, 0);
        }
        Matcher imports = Pattern.compile("import ([^;]*);").matcher(bare);
        while (imports.find()) {
            Check.due("import " + imports.group(1), IMPORTS.contains(imports.group(1)) ? 1 : 0, 1);
        }
        Matcher thrown = Pattern.compile("\\bthrow (new \\w+)").matcher(bare);
        while (thrown.find()) {
            Check.due(thrown.group(), List.of("new NoSuchElementException", "new IllegalArgumentException")
                    .contains(thrown.group(1)) ? 1 : 0, 1);
        }
        methodLengths(bare);
        Check.end();
    }

    /** A method ends with a brace as far in as its head. */
    private static void methodLengths(String bare) {
        String[] lines = bare.split("\n");
        Pattern head = Pattern.compile("^( {4}| {8})(?! )(?!.*\\bclass\\b)[^=;]*\\(.*");
        for (int i = 0; i < lines.length; i++) {
            Matcher m = head.matcher(lines[i]);
            if (m.matches()) {
                int end = i;
                while (end < lines.length - 1 && !lines[end].equals(m.group(1) + "}")) {
                    end++;
                }
                Check.due("lines of " + lines[i].trim(), end - i < 60 ? 1 : 0, 1);
            }
        }
    }
}
