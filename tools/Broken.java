import java.io.File;
import java.io.IOException;
import java.io.PrintStream;
import java.lang.reflect.Field;
import java.lang.reflect.Method;
import java.net.URL;
import java.net.URLClassLoader;
import java.nio.file.Files;
import java.nio.file.Path;
import java.util.ArrayList;
import java.util.LinkedHashSet;
import java.util.List;
import java.util.Set;
import java.util.regex.Matcher;
import java.util.regex.Pattern;
import javax.tools.JavaCompiler;
import javax.tools.StandardJavaFileManager;
import javax.tools.ToolProvider;

/**
 * Breaks the class, one way at a time, and tells which sentences' tests see it: by hand, as tools/broken.txt lists
 * it (each entry must be seen by the test of its own sentence), or, with the word "all", by each small change of a line.
 * It is run by tools/broken, not by .ci/run: its entries are bound to the wording of the class.
 */
public final class Broken {
    private static final Path SOURCE = Path.of("src/main/java/PartedInks.java");
    private static final Path ENTRIES = Path.of("tools/broken.txt");
    private static final int MOST_MILLIS = 20000;
    private static final PrintStream OUT = System.out;
    private static final String[][] CHANGES = {{"<=", "<"}, {"<=", "=="}, {">=", ">"}, {" < ", " <= "}, {" > ", " >= "}, {"==", "!="},
        {"!=", "=="}, {"&&", "||"}, {"\\|\\|", "&&"}, {" \\+ ", " - "}, {" - ", " + "}, {"\\+\\+", "--"}, {"--", "++"}, {" \\* ", " + "},
        {" / ", " * "}, {" % ", " / "}, {"return true", "return false"}, {"return false", "return true"}, {"!(?!=)", ""},
        {"\\b0\\b", "1"}, {"\\b1\\b", "2"}, {"\\b1\\b", "0"}, {"\\b(\\d+)\\b", "($1 + 1)"}, {"\\b(\\d+)\\b", "($1 - 1)"},
        {" & ", " | "}, {" \\| ", " & "}, {"<<", ">>"}, {"^(\\s+)[\\w.\\[\\]]+ = [^;]*;$", "$1;"}, {"^(\\s+)[\\w.]+\\(.*\\);$", "$1;"},
        {"\\b(BAD|NOT|FULL|NONE|NULL|CAST|INDEX|SIZE)\\b", "(-9)"}};

    private final Path tests;
    private final Path broken;

    private Broken(Path tests, Path broken) {
        this.tests = tests;
        this.broken = broken;
    }

    public static void main(String[] args) throws Exception {
        Path tests = Path.of(args[0]);
        Broken tool = new Broken(tests, Files.createTempDirectory("broken"));
        int left = args.length > 1 && args[1].equals("all") ? tool.all() : tool.byHand();
        OUT.println(left == 0 ? "all were seen" : left + " were not seen");
        System.exit(left == 0 ? 0 : 1);
    }

    private int byHand() throws Exception {
        String source = Files.readString(SOURCE);
        Set<String> sentences = new LinkedHashSet<>();
        int left = 0;
        int many = 0;
        for (String entry : Files.readString(ENTRIES).split("(?m)^== ")) {
            if (entry.isBlank()) {
                continue;
            }
            String[] parts = entry.split("\n(-- |\\+\\+ ?)");
            String words = parts[0].strip();
            String old = parts[1].stripTrailing();
            String change = parts.length > 2 ? parts[2].stripTrailing() : "";
            many++;
            sentences.add(words);
            int at = source.indexOf(old);
            if (at < 0 || source.indexOf(old, at + 1) >= 0) {
                OUT.println("not once in the class: " + words + " -- " + old);
                left++;
                continue;
            }
            List<String> seen = seenBy(source.substring(0, at) + change + source.substring(at + old.length()));
            if (seen == null || !seen.contains(words)) {
                OUT.println((seen == null ? "not compiled: " : "not seen by its own: ") + words + " -- " + old.strip() + " seen by " + seen);
                left++;
            }
        }
        OUT.println(many + " entries of " + sentences.size() + " sentences");
        return left + withoutEntry(sentences);
    }

    private int withoutEntry(Set<String> sentences) throws IOException {
        int without = 0;
        for (String file : new String[] {"TermsBoundaries", "PromiseBoundaries"}) {
            Matcher m = Pattern.compile("Checks\\.sentence\\(\"([^\"]*)\"").matcher(Files.readString(Path.of("src/test/java/" + file + ".java")));
            while (m.find()) {
                if (!sentences.contains(m.group(1))) {
                    OUT.println("no entry: " + m.group(1));
                    without++;
                }
            }
        }
        return without;
    }

    private int all() throws Exception {
        String[] lines = Files.readString(SOURCE).split("\n");
        int left = 0;
        int many = 0;
        for (int k = 0; k < lines.length; k++) {
            String line = lines[k];
            if (line.strip().startsWith("*") || line.strip().startsWith("/") || line.contains("public static final int BAD")) {
                continue;
            }
            for (String[] change : CHANGES) {
                Matcher m = Pattern.compile(change[0]).matcher(line);
                while (m.find()) {
                    String changed = line.substring(0, m.start()) + m.group().replaceAll(change[0], change[1]) + line.substring(m.end());
                    lines[k] = changed;
                    List<String> seen = seenBy(String.join("\n", lines));
                    lines[k] = line;
                    many += seen == null ? 0 : 1;
                    if (seen != null && seen.isEmpty()) {
                        OUT.println("line " + (k + 1) + ": " + changed.strip());
                        left++;
                    }
                }
            }
        }
        OUT.println(many + " changes");
        return left;
    }

    /** The sentences whose tests fail by this writing of the class; null, if it is not compiled. */
    private List<String> seenBy(String source) throws Exception {
        Path file = broken.resolve("PartedInks.java");
        Files.writeString(file, source);
        JavaCompiler compiler = ToolProvider.getSystemJavaCompiler();
        try (StandardJavaFileManager files = compiler.getStandardFileManager(d -> { }, null, null)) {
            List<String> options = List.of("-d", broken.toString(), "-nowarn");
            if (!compiler.getTask(null, files, d -> { }, options, null, files.getJavaFileObjects(file)).call()) {
                return null;
            }
        }
        List<String> failed = new ArrayList<>();
        Thread runner = new Thread(() -> failed.addAll(run()));
        runner.setDaemon(true);
        runner.start();
        runner.join(MOST_MILLIS);
        if (runner.isAlive()) {
            failed.add("it does not end");
        }
        return failed;
    }

    private List<String> run() {
        try (URLClassLoader loader = new URLClassLoader(new URL[] {url(broken), url(tests)}, ClassLoader.getPlatformClassLoader())) {
            System.setOut(new PrintStream(PrintStream.nullOutputStream()));
            for (String name : new String[] {"TermsBoundaries", "PromiseBoundaries"}) {
                Method run = loader.loadClass(name).getDeclaredMethod("run");
                run.setAccessible(true);
                run.invoke(null);
            }
            Field failed = loader.loadClass("Checks").getDeclaredField("FAILED");
            failed.setAccessible(true);
            List<String> sentences = new ArrayList<>();
            for (Object words : (List<?>) failed.get(null)) {
                sentences.add((String) words);
            }
            return sentences;
        } catch (IOException | ReflectiveOperationException e) {
            return List.of("threw " + e.getCause());
        }
    }

    private static URL url(Path directory) throws IOException {
        return new File(directory.toString() + "/").toURI().toURL();
    }
}
