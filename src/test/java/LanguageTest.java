import java.io.IOException;
import java.nio.charset.StandardCharsets;
import java.nio.file.Files;
import java.nio.file.Path;
import java.util.List;
import java.util.regex.Matcher;
import java.util.regex.Pattern;

/** What of ../shared/LANGUAGE.md can be seen in the source itself. */
public final class LanguageTest {
    private static final String[] RULED_OUT = {
        "->", "::", "\\bfinally\\b", "\\bsynchronized\\b", "\\bassert\\b", "\\btry\\b", "\\bcatch\\b", "\\bpackage\\b",
        "\\bprotected\\b", "\\bvolatile\\b", "\\bnative\\b", "\\bvar\\b", "\\bObject\\b", "\\bMap\\b", "\\bSet\\b",
        "\\bhashCode\\b", "\\btoString\\b", "Exact\\b", "\\bdouble\\b", "\\bfloat\\b", "\\bSystem\\.(?!arraycopy\\b)",
        "\\bArrays\\.(?!copyOf\\b|copyOfRange\\b|fill\\b)", "Arrays\\.fill\\([a-z.]+, (true|false)\\)", "\\[\\]\\[\\]",
        "\\bwhile \\(true\\)", "for \\(;;\\)", "\\brandom\\b", "\\bthrows? new (?!IndexOutOf|NoSuchElement)",
        "\" \\+", "\\+ \""};

    public static void main(String[] args) throws IOException {
        List<String> lines = Files.readAllLines(Path.of("src/main/java/BeatenBounds.java"), StandardCharsets.US_ASCII);
        int start = -1;
        int longest = 0;
        boolean making = false;
        for (int k = 0; k < lines.size(); k++) {
            String line = lines.get(k).replaceAll("//.*|/\\*\\*.*\\*/", "");
            for (String one : RULED_OUT) {
                Matcher found = Pattern.compile(one).matcher(line);
                Due.is("line " + (k + 1) + ": " + one, found.find(), false);
            }
            Due.is("line " + (k + 1) + " is at most 125 long", lines.get(k).length() <= 125, true);
            if (line.matches(" {4,8}[a-zA-Z].*\\) (throws .*)?\\{") && !line.contains(" class ")) {
                start = k;
                // A head of one name without a type ahead of it is a constructor's.
                making = line.matches(" +(public )?[A-Z]\\w*\\(.*");
            }
            boolean makes = line.replace("throw new ", "").matches(".*\\bnew\\b.*");
            Due.is("line " + (k + 1) + ": only constructors make objects", makes && !making, false);
            if (line.matches(" {4}( {4})?\\}") && start >= 0) {
                longest = Math.max(longest, k - start + 1);
                start = -1;
            }
        }
        Due.is("some sixty lines a method: " + longest, longest <= 60, true);
        List<String> imports = lines.stream().filter(line -> line.startsWith("import ")).toList();
        Due.is("imports", imports.equals(List.of("import java.util.Arrays;", "import java.util.NoSuchElementException;")),
            true);
        Due.end();
    }
}
