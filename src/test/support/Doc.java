import java.io.IOException;
import java.io.UncheckedIOException;
import java.nio.charset.StandardCharsets;
import java.nio.file.Files;
import java.nio.file.Path;
import java.util.Arrays;
import java.util.LinkedHashMap;
import java.util.Map;

/**
 * The document, of which tests quote the words that they test. All its words from 'Terms' to the last promise
 * must be quoted, each quote with a test, so that no sentence is without one. (Where the document isn't there,
 * the tests run all the same.)
 */
final class Doc {
    private static final Path PATH = Path.of("../shared/DOC.md");
    private static final Map<String, String> SECTIONS = sections();
    private static final Map<String, boolean[]> QUOTED = new LinkedHashMap<>();
    private static int quotes;
    private static String latest;
    private static int answersAhead;

    private Doc() {
    }

    private static Map<String, String> sections() {
        Map<String, String> sections = new LinkedHashMap<>();
        if (!Files.exists(PATH)) {
            return sections;
        }
        try {
            for (String section : Files.readString(PATH, StandardCharsets.ISO_8859_1).split("\n## ")) {
                int end = section.indexOf('\n');
                String name = section.substring(0, Math.max(end, 0)).replaceAll(":.*", "");
                sections.put(name, plain(section.substring(end + 1)));
            }
        } catch (IOException e) {
            throw new UncheckedIOException(e);
        }
        return sections;
    }

    /** Without what is no sentence: fences, the numbers of parts, a method's head. */
    private static String plain(String section) {
        return section.replaceAll("(?m)^```.*$|==== \\d\\.|`[^`\n]*`:", " ").replaceAll("\\s+", " ").trim();
    }

    static void about(String words) {
        quote("What it is", words);
    }

    static void terms(String words) {
        quote("Terms", words);
    }

    static void promise(int number, String words) {
        quote("Promise " + number, words);
    }

    private static void quote(String name, String words) {
        endQuote();
        quotes++;
        latest = words;
        Due.about(name + ": " + words);
        answersAhead = Due.answers();
        if (!SECTIONS.isEmpty()) {
            mark(name, words);
        }
    }

    private static void mark(String name, String words) {
        String section = SECTIONS.getOrDefault(name, "");
        boolean[] quoted = QUOTED.computeIfAbsent(name, key -> new boolean[section.length()]);
        int at = section.indexOf(words);
        Due.is("is quoted as it stands", at >= 0, true);
        for (; at >= 0; at = section.indexOf(words, at + 1)) {
            Arrays.fill(quoted, at, at + words.length(), true);
        }
        answersAhead = Due.answers();
    }

    private static void endQuote() {
        if (latest != null) {
            Due.is("has a test", Due.answers() > answersAhead, true);
        }
    }

    static void end() {
        endQuote();
        Due.about("quotes");
        for (Map.Entry<String, String> section : SECTIONS.entrySet()) {
            if (section.getKey().equals("Terms") || section.getKey().startsWith("Promise ")) {
                String missing = missing(section.getKey(), section.getValue());
                Due.is(section.getKey() + " is not quoted: " + missing, missing.isEmpty(), true);
            }
        }
        System.out.println(quotes + " quotes of the document" + (SECTIONS.isEmpty() ? ", which isn't there" : ""));
    }

    private static String missing(String name, String section) {
        boolean[] quoted = QUOTED.getOrDefault(name, new boolean[section.length()]);
        StringBuilder missing = new StringBuilder();
        for (int k = 0; k < quoted.length; k++) {
            missing.append(quoted[k] ? ' ' : section.charAt(k));
        }
        return missing.toString().replaceAll("[^A-Za-z0-9]+", " ").trim();
    }
}
