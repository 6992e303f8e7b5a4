import java.io.IOException;
import java.nio.file.Files;
import java.nio.file.Path;
import java.util.ArrayList;
import java.util.List;
import java.util.concurrent.ExecutorService;
import java.util.concurrent.Executors;
import java.util.concurrent.TimeUnit;
import java.util.concurrent.atomic.AtomicInteger;
import java.util.regex.Matcher;
import java.util.regex.Pattern;
import javax.tools.JavaCompiler;
import javax.tools.ToolProvider;

/**
 * Puts small faults into the class, one at a time, and tells those that none of the named tests finds:
 * java src/test/tools/Mutants.java EdgesTest [more tests]. It is not part of .ci/run, for it runs long; what it
 * tells is to be looked at, since a fault may change nothing that can be seen.
 */
public final class Mutants {
    private static final Path SOURCE = Path.of("src/main/java/BeatenBounds.java");
    // What is looked for, and what is put in its place.
    private static final String[][] FAULTS = {
        {" < ", " <= "}, {" <= ", " < "}, {" > ", " >= "}, {" >= ", " > "}, {" == ", " != "}, {" != ", " == "},
        {" && ", " || "}, {" \\|\\| ", " && "}, {" \\+ ", " - "}, {" - ", " + "}, {" \\* ", " + "}, {" / ", " * "},
        {" % ", " / "}, {" & ", " | "}, {" \\| ", " & "}, {"\\|= ", "&= "}, {"\\+\\+", "--"}, {"--", "++"},
        {"\\+= ", "-= "}, {"\\btrue\\b", "false"}, {"\\bfalse\\b", "true"}, {"Math\\.max", "Math.min"},
        {"Math\\.min", "Math.max"}, {"\\(!", "("}, {" >> ", " << "}, {" << ", " >> "}, {"\\bNONE\\b", "NOT_SO"},
        {"\\bNOT_SO\\b", "NONE"}, {"\\bone\\b", "other"}, {"\\bother\\b", "one"}};
    private static final Pattern NUMBER = Pattern.compile("(?<![\\w.])\\d+L?\\b");
    private static final Pattern STATEMENT = Pattern.compile("^ {8,}(?!return|break|continue|static|final|int |long "
        + "|boolean )[a-zA-Z][^={]*( [-+|]?= .*|\\(.*\\)|\\+\\+|--);$");

    public static void main(String[] args) throws IOException, InterruptedException {
        Path tests = compiledTests(args);
        List<String> lines = Files.readAllLines(SOURCE);
        List<String[]> mutants = new ArrayList<>();
        for (int k = 0; k < lines.size(); k++) {
            mutate(lines, k, mutants);
        }
        System.out.println(mutants.size() + " faults");
        AtomicInteger unfound = new AtomicInteger();
        ExecutorService pool = Executors.newFixedThreadPool(Runtime.getRuntime().availableProcessors());
        for (String[] mutant : mutants) {
            pool.execute(() -> tryOne(lines, mutant, tests, args, unfound));
        }
        pool.shutdown();
        pool.awaitTermination(10, TimeUnit.HOURS);
        System.out.println(unfound + " faults that no test found");
    }

    private static Path compiledTests(String[] tests) throws IOException {
        Path out = Files.createTempDirectory("tests");
        JavaCompiler compiler = ToolProvider.getSystemJavaCompiler();
        for (String test : tests) {
            compiler.run(null, null, null, "-sourcepath", "src/test/support:src/main/java", "-d", out.toString(),
                "src/test/java/" + test + ".java");
        }
        return out;
    }

    private static void mutate(List<String> lines, int k, List<String[]> mutants) {
        String line = lines.get(k);
        if (line.trim().startsWith("//") || line.trim().startsWith("*") || line.trim().startsWith("/*")
                || line.contains("import ") || line.contains("\"")) {
            return;
        }
        for (String[] fault : FAULTS) {
            Matcher found = Pattern.compile(fault[0]).matcher(line);
            while (found.find()) {
                String ahead = line.substring(0, found.start());
                mutants.add(new String[] {"" + k, ahead + fault[1] + line.substring(found.end())});
            }
        }
        Matcher number = NUMBER.matcher(line);
        while (number.find()) {
            String ahead = line.substring(0, number.start());
            mutants.add(new String[] {"" + k, ahead + "(" + number.group() + " + 1)" + line.substring(number.end())});
            mutants.add(new String[] {"" + k, ahead + "(" + number.group() + " - 1)" + line.substring(number.end())});
        }
        if (STATEMENT.matcher(line).find()) {
            mutants.add(new String[] {"" + k, ""});
        }
    }

    private static void tryOne(List<String> lines, String[] mutant, Path tests, String[] names, AtomicInteger unfound) {
        try {
            int k = Integer.parseInt(mutant[0]);
            List<String> changed = new ArrayList<>(lines);
            changed.set(k, mutant[1]);
            Path out = Files.createTempDirectory("mutant");
            Path source = out.resolve("BeatenBounds.java");
            Files.write(source, changed);
            JavaCompiler compiler = ToolProvider.getSystemJavaCompiler();
            int wrong = compiler.run(null, java.io.OutputStream.nullOutputStream(), java.io.OutputStream.nullOutputStream(),
                "-d", out.toString(), source.toString());
            if (wrong == 0 && !isFound(out, tests, names)) {
                unfound.incrementAndGet();
                System.out.println((k + 1) + ": " + lines.get(k).trim() + "\n    " + mutant[1].trim());
            }
            remove(out);
        } catch (IOException | InterruptedException e) {
            System.out.println("not tried: " + mutant[0] + " " + e);
        }
    }

    private static void remove(Path out) throws IOException {
        try (java.util.stream.Stream<Path> files = Files.list(out)) {
            for (Path file : files.toList()) {
                Files.delete(file);
            }
        }
        Files.delete(out);
    }

    /** A test that doesn't end has found it, too. */
    private static boolean isFound(Path out, Path tests, String[] names) throws IOException, InterruptedException {
        for (String name : names) {
            Process run = new ProcessBuilder("java", "-XX:TieredStopAtLevel=1", "-cp", out + ":" + tests, name)
                .redirectOutput(ProcessBuilder.Redirect.DISCARD).redirectError(ProcessBuilder.Redirect.DISCARD).start();
            if (!run.waitFor(60, TimeUnit.SECONDS)) {
                run.destroyForcibly();
                return true;
            }
            if (run.exitValue() != 0) {
                return true;
            }
        }
        return false;
    }
}
