import java.io.PrintWriter;
import java.nio.file.Files;
import java.nio.file.Path;
import java.util.ArrayList;
import java.util.List;
import java.util.regex.Matcher;
import java.util.regex.Pattern;
import javax.tools.ToolProvider;

/** README.md: its examples are compiled and answer what they say; its table has each call of the document's face. */
public final class ReadmeExamples {
    private static final Path README = Path.of("README.md");
    private static final Path DOCUMENT = Path.of("../shared/DOC.md");
    private static final Pattern EXAMPLE = Pattern.compile("```java\n(.*?)```", Pattern.DOTALL);
    /** A call with the answer behind it: a number, or one of the constants. */
    private static final Pattern TOLD = Pattern.compile("(?m)^(x\\.\\w+\\(.*?\\)); *// (-?\\w+)(:.*)$");
    private static final Pattern FACE = Pattern.compile("public (?:int )?(\\w+)\\(([^)]*)\\);");
    private static final int CALLS = 28;
    private static int wrong = 0;
    private static int checks = 0;

    public static void main(String[] args) throws Exception {
        String readme = Files.readString(README);
        table(readme, Files.readString(DOCUMENT));
        constants(readme);
        examples(readme);
        System.out.println(checks + " checks, " + wrong + " wrong");
        if (wrong != 0) {
            System.exit(1);
        }
    }

    private static void due(String what, boolean holds) {
        checks++;
        if (!holds) {
            wrong++;
            System.out.println(what);
        }
    }

    /** What an example calls behind each of its answers. */
    public static void answered(String call, long got, long told) {
        due("README.md: " + call + " answered " + got + ", told is " + told, got == told);
    }

    private static void table(String readme, String document) {
        Matcher call = FACE.matcher(document);
        int calls = 0;
        while (call.find()) {
            String row = "| `" + call.group(1) + "(" + call.group(2).replaceAll("(int|long) ", "") + ")` |";
            due("README.md has no row " + row, readme.contains(row));
            calls++;
        }
        due("the document has " + calls + " calls", calls == CALLS);
    }

    private static void constants(String readme) throws Exception {
        for (String name : List.of("BAD", "NOT", "FULL", "NONE", "NULL", "CAST", "INDEX", "SIZE")) {
            String row = "| `" + name + "` " + PartedInks.class.getField(name).getInt(null) + " |";
            due("README.md has no row " + row, readme.contains(row));
        }
    }

    private static void examples(String readme) throws Exception {
        List<String> bodies = new ArrayList<>();
        Matcher example = EXAMPLE.matcher(readme);
        while (example.find()) {
            bodies.add(example.group(1));
        }
        due("README.md has examples", !bodies.isEmpty());
        for (int k = 0; k < bodies.size(); k++) {
            int checksAhead = checks;
            run("Example" + k, bodies.get(k));
            due("example " + k + " tells no answer", checks > checksAhead);
        }
    }

    private static void run(String name, String body) throws Exception {
        Path folder = Files.createTempDirectory("readme");
        try {
            Path source = folder.resolve(name + ".java");
            Files.writeString(source, "public class " + name + " {\n    public static void main(String[] args) {\n" + checked(body) + "    }\n}\n");
            String classes = System.getProperty("java.class.path");
            int code = ToolProvider.getSystemJavaCompiler().run(null, null, null, "-cp", classes, "-d", folder.toString(), source.toString());
            due(name + " was not compiled", code == 0);
            if (code == 0) {
                start(folder, name);
            }
        } finally {
            remove(folder);
        }
    }

    private static String checked(String body) {
        StringBuilder text = new StringBuilder();
        Matcher told = TOLD.matcher(body);
        while (told.find()) {
            String want = Character.isLetter(told.group(2).charAt(0)) ? "PartedInks." + told.group(2) : told.group(2);
            String check = "ReadmeExamples.answered(\"" + told.group(1) + "\", " + told.group(1) + ", " + want + ");";
            told.appendReplacement(text, Matcher.quoteReplacement(check));
        }
        return told.appendTail(text).toString();
    }

    private static void start(Path folder, String name) throws Exception {
        try (java.net.URLClassLoader loader = new java.net.URLClassLoader(new java.net.URL[] {folder.toUri().toURL()})) {
            loader.loadClass(name).getMethod("main", String[].class).invoke(null, (Object) new String[0]);
        } catch (java.lang.reflect.InvocationTargetException e) {
            due(name + " threw", false);
            e.getCause().printStackTrace(new PrintWriter(System.out, true));
        }
    }

    private static void remove(Path folder) throws Exception {
        try (var files = Files.list(folder)) {
            for (Path file : files.toList()) {
                Files.delete(file);
            }
        }
        Files.delete(folder);
    }
}
