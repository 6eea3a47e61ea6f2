import java.io.IOException;
import java.nio.file.Files;
import java.nio.file.Path;
import java.util.List;
import java.util.regex.Matcher;
import java.util.regex.Pattern;

/** What of ../shared/LANGUAGE.md can be seen by reading the source as text. */
public final class LanguageTest {
    private static final Path SOURCE = Path.of("src/main/java/TillTheyMeet.java");
    private static final int LONGEST = 60, MOST_CLASSES = 12, MOST_PARAMETERS = 7;
    private static final List<String> RULED_OUT = List.of(
            "\\bthrow\\b", "\\bthrows\\b", "\\btry\\b", "\\bcatch\\b", "\\bsynchronized\\b", "\\bassert\\b", "->", "::",
            "\\bpackage\\b", "\\bprotected\\b", "\\bvar\\b", "\\bObject\\b", "\\bSystem\\.(?!arraycopy)", "\\bThread\\b",
            "\\bRandom\\b", "\\bMath\\.\\w*Exact\\b", "\\bhashCode\\b", "\\btoString\\b", "\\bnew \\w+(<.*>)?\\([^)]*\\) *\\{",
            "\\bstatic *\\{", "\\bfor *\\( *; *; *\\)", "\\bwhile *\\( *true", "\" *\\+", "\\+ *\"");

    private LanguageTest() { }

    public static void main(String[] args) throws IOException {
        Due due = new Due("language");
        String source = Files.readString(SOURCE);
        due.is("plain signs", source.chars().allMatch(c -> c == 10 || c >= 32 && c < 127) ? 1 : 0, 1);
        String code = source.replaceAll("(?s)/\\*.*?\\*/", "").replaceAll("//[^\n]*", "");
        for (String out : RULED_OUT) {
            Matcher m = Pattern.compile(out).matcher(code);
            due.is(out, m.find() ? 1 : 0, 0);
        }
        for (String line : code.split("\n")) {
            if (line.startsWith("import")) due.is(line, line.equals("import java.util.Arrays;") ? 1 : 0, 1);
            if (line.matches(".*\\bstatic\\b.*=.*")) due.is(line, line.contains(" final ") ? 1 : 0, 1);
        }
        due.is("classes", count(code, "\\bclass\\b") <= MOST_CLASSES ? 1 : 0, 1);
        methods(due, code.split("\n"));
        due.end();
    }

    private static int count(String code, String pattern) {
        return (int) Pattern.compile(pattern).matcher(code).results().count();
    }

    /** A method begins with a line that ends by ") {" in a class's own depth, and ends with a brace there. */
    private static void methods(Due due, String[] lines) {
        Pattern head = Pattern.compile("^( {4}| {8})(?! )[^=;]*\\b(\\w+)\\((.*)\\) \\{$");
        for (int i = 0; i < lines.length; i++) {
            Matcher m = head.matcher(lines[i]);
            if (!m.matches() || m.group(2).matches("if|for|while|switch")) continue;
            int end = i;
            while (end < lines.length - 1 && !lines[end].equals(m.group(1) + "}")) end++;
            due.is(m.group(2) + " has " + (end - i + 1) + " lines", end - i + 1 <= LONGEST ? 1 : 0, 1);
            due.is(m.group(2) + "'s parameters", m.group(3).split(",").length <= MOST_PARAMETERS ? 1 : 0, 1);
        }
    }
}
