import java.io.IOException;
import java.lang.reflect.InvocationTargetException;
import java.lang.reflect.Method;
import java.nio.charset.StandardCharsets;
import java.nio.file.Files;
import java.nio.file.Path;
import java.util.Set;
import java.util.TreeSet;
import java.util.regex.Matcher;
import java.util.regex.Pattern;

/** What README.md shows holds: each call there answers as it says, and its helper is the one of this file. */
public final class ReadmeTest {
    private static final Pattern CALL = Pattern.compile("bounds\\.(\\w+)\\(([^)]*)\\);\\s+// (true|false|-?\\d+|throws \\w+)\\b.*");
    private static final Pattern TELL = Pattern.compile("tell\\(bounds, \"([^\"]*)\"\\);\\s+// (-?\\d+)\\b.*");

    static int tell(BeatenBounds bounds, String text) {
        for (int k = 0; k < text.length(); k += 20) {
            bounds.feed(four(text, k), four(text, k + 4), four(text, k + 8), four(text, k + 12), four(text, k + 16));
        }
        return bounds.text(text.length());
    }

    static int four(String text, int from) {
        int four = 0;
        for (int k = from; k < from + 4; k++) {
            four = four << 8 | (k < text.length() ? text.charAt(k) : ' ');
        }
        return four;
    }

    public static void main(String[] args) throws IOException, ReflectiveOperationException {
        String readme = read("README.md");
        String own = plain(read("src/test/java/ReadmeTest.java"));
        BeatenBounds bounds = new BeatenBounds();
        Set<String> shown = new TreeSet<>();
        Matcher blocks = Pattern.compile("(?s)```java\n(.*?)```").matcher(readme);
        while (blocks.find()) {
            if (blocks.group(1).startsWith("static ")) {
                Due.is("the helper is this file's", own.contains(plain(blocks.group(1))), true);
                continue;
            }
            for (String line : blocks.group(1).split("\n")) {
                show(bounds, line.trim(), shown);
            }
        }
        for (Method method : BeatenBounds.class.getMethods()) {
            boolean ours = method.getDeclaringClass() == BeatenBounds.class;
            Due.is("README tells of " + method.getName(), !ours || readme.contains("`" + method.getName() + "`"), true);
        }
        Due.is("calls shown: " + shown, shown.size() >= 20, true);
        Due.end();
    }

    private static void show(BeatenBounds bounds, String line, Set<String> shown) throws ReflectiveOperationException {
        if (line.isEmpty() || line.startsWith("//") || line.equals("BeatenBounds bounds = new BeatenBounds();")) {
            return;
        }
        Matcher told = TELL.matcher(line);
        Matcher call = CALL.matcher(line);
        if (told.matches()) {
            Due.is(line, tell(bounds, told.group(1)), Long.parseLong(told.group(2)));
        } else if (call.matches()) {
            shown.add(call.group(1));
            Due.same(line, answer(bounds, call.group(1), call.group(2)), call.group(3));
        } else {
            Due.is("is a call with its answer: " + line, false, true);
        }
    }

    private static String answer(BeatenBounds bounds, String name, String values) throws ReflectiveOperationException {
        String[] given = values.isEmpty() ? new String[0] : values.split(", ");
        for (Method method : BeatenBounds.class.getMethods()) {
            if (method.getName().equals(name) && method.getParameterCount() == given.length) {
                Object[] parts = new Object[given.length];
                for (int k = 0; k < given.length; k++) {
                    boolean flag = method.getParameterTypes()[k] == boolean.class;
                    parts[k] = flag ? (Object) Boolean.valueOf(given[k]) : (Object) Integer.decode(given[k]);
                }
                try {
                    return String.valueOf(method.invoke(bounds, parts));
                } catch (InvocationTargetException e) {
                    return "throws " + e.getCause().getClass().getSimpleName();
                }
            }
        }
        return "no such method";
    }

    private static String read(String path) throws IOException {
        return Files.readString(Path.of(path), StandardCharsets.US_ASCII);
    }

    private static String plain(String code) {
        return code.replaceAll("\\s+", " ").trim();
    }
}
