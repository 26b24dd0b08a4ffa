import java.io.IOException;
import java.lang.reflect.Method;
import java.lang.reflect.Modifier;
import java.net.URL;
import java.net.URLClassLoader;
import java.nio.file.Files;
import java.nio.file.Path;
import java.util.ArrayList;
import java.util.List;
import java.util.TreeSet;
import java.util.regex.Matcher;
import java.util.regex.Pattern;
import java.util.stream.Stream;
import javax.tools.ToolProvider;

/** What README.md shows: its calls answer what stands beside them, and what it names is there. */
public final class ReadmeTest extends Checks {
    private static final Path DOCUMENT = Path.of("../shared/DOC.md");
    private static final Pattern SHOWN =
            Pattern.compile("(?<call>.*\\));\\s+// (?<kind>answers|throws) (?<due>-?\\w+(\\.\\d+)?)(?:[:,] .*)?");
    private static final Pattern MADE = Pattern.compile("DefaultReasoner \\w+ = new DefaultReasoner\\(\\);");

    /** The lines of all blocks that are marked with this language. */
    private static List<String> blocks(String text, String language) {
        List<String> lines = new ArrayList<>();
        boolean inside = false;
        for (String line : text.split("\n")) {
            if (line.startsWith("```")) {
                inside = !inside && line.equals("```" + language);
            } else if (inside) {
                lines.add(line);
            }
        }
        return lines;
    }

    /** A program that makes all calls in a row and tells of each what it answered and what is due. */
    private static String program(List<String> lines) {
        StringBuilder body = new StringBuilder();
        for (String line : lines) {
            Matcher shown = SHOWN.matcher(line);
            if (MADE.matcher(line).matches()) {
                body.append(line).append('\n');
            } else if (shown.matches()) {
                String call = shown.group("call");
                String due = (shown.group("kind").equals("throws") ? "throws " : "") + shown.group("due");
                body.append("try { got = String.valueOf(" + call + "); }\n"
                        + "catch (RuntimeException e) { got = \"throws \" + e.getClass().getSimpleName(); }\n"
                        + "rows.add(new String[] {\"" + call + "\", got, \"" + due + "\"});\n");
            } else {
                fault("a line that tells no answer: " + line);
            }
        }
        return "public final class Shown {\npublic static void run(java.util.List<String[]> rows) {\nString got;\n"
                + body + "}\n}\n";
    }

    private static void callsAnswerAsShown(List<String> lines) throws Exception {
        Path dir = Files.createTempDirectory("readme");
        Path file = dir.resolve("Shown.java");
        Files.writeString(file, program(lines));
        int code = ToolProvider.getSystemJavaCompiler().run(null, null, null,
                "-cp", System.getProperty("java.class.path"), "-d", dir.toString(), file.toString());
        if (code != 0) {
            fault("the calls do not compile");
        } else {
            List<String[]> rows = new ArrayList<>();
            try (URLClassLoader loader = new URLClassLoader(new URL[] {dir.toUri().toURL()})) {
                loader.loadClass("Shown").getMethod("run", List.class).invoke(null, rows);
            }
            for (String[] row : rows) {
                is(row[0], row[1], row[2]);
            }
        }
        removeAll(dir);
    }

    private static void removeAll(Path dir) throws IOException {
        try (Stream<Path> files = Files.list(dir)) {
            for (Path file : files.toList()) {
                Files.delete(file);
            }
        }
        Files.delete(dir);
    }

    private static void allMethodsAreShown(List<String> lines) {
        for (Method m : DefaultReasoner.class.getDeclaredMethods()) {
            if (Modifier.isPublic(m.getModifiers())) {
                boolean shown = lines.stream().anyMatch(line -> line.matches("[^/]*\\." + m.getName() + "\\(.*"));
                is("a call of " + m.getName() + " is shown", shown, true);
            }
        }
    }

    /** Files are named with their way from the project's root. */
    private static void filesAreThere(String text) {
        Matcher m = Pattern.compile("(?<![\\w/])(\\.\\./shared|src|\\.ci)(/[\\w.]+)+").matcher(text);
        while (m.find()) {
            String name = m.group().replaceAll("\\.$", "");
            if (name.startsWith("../shared") && !Files.exists(DOCUMENT)) {
                System.out.println("no " + DOCUMENT + " here: not looked for " + name);
            } else {
                is("there is " + name, Files.exists(Path.of(name)), true);
            }
        }
    }

    private static void testsAreNamed(String text) throws IOException {
        TreeSet<String> there = new TreeSet<>();
        try (Stream<Path> files = Files.list(Path.of("src/test/java"))) {
            files.forEach(f -> there.add(f.getFileName().toString().replace(".java", "")));
        }
        TreeSet<String> named = new TreeSet<>();
        Matcher m = Pattern.compile("`(\\w+Test)`").matcher(text);
        while (m.find()) {
            named.add(m.group(1));
        }
        is("the tests that are named", named, there);
    }

    private static void commandsAreShown(String text) {
        List<String> commands = blocks(text, "sh");
        is("how to run the tests is shown", commands.contains("bash .ci/run"), true);
        is("the tests can be run", Files.isExecutable(Path.of(".ci/run")), true);
    }

    public static void main(String[] args) throws Exception {
        String text = Files.readString(Path.of(args.length > 0 ? args[0] : "README.md"));
        List<String> lines = blocks(text, "java");
        at("readme, calls");
        callsAnswerAsShown(lines);
        at("readme, methods");
        allMethodsAreShown(lines);
        at("readme, files");
        filesAreThere(text);
        at("readme, tests");
        testsAreNamed(text);
        at("readme, commands");
        commandsAreShown(text);
        end();
    }
}
