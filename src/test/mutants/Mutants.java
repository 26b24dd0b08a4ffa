import java.io.IOException;
import java.nio.file.Files;
import java.nio.file.Path;
import java.util.ArrayList;
import java.util.List;
import java.util.concurrent.ExecutorService;
import java.util.concurrent.Executors;
import java.util.concurrent.Future;
import java.util.concurrent.TimeUnit;
import java.util.stream.Stream;
import javax.tools.ToolProvider;

/**
 * Breaks the class or README.md, one place at a time, and looks whether the test of what is broken
 * then fails. Run by hand, from the project's root: java src/test/mutants/Mutants.java
 *
 * mutants.txt has three lines for each: the beginning of what the test prints (a sentence of the
 * document, a rule of LANGUAGE.md, or readme), what stands in the file (just once; \\n is a new
 * line), and what is put there. Words behind the command leave only mutants that begin with them.
 */
public final class Mutants {
    private static final Path CLASS = Path.of("src/main/java/DefaultReasoner.java");
    private static final Path README = Path.of("README.md");

    private static String testOf(String named) {
        return named.startsWith("description") ? "DescriptionEdgesTest" : named.startsWith("promise") ? "PromiseEdgesTest"
                : named.startsWith("rule") ? "LanguageTest" : "ReadmeTest";
    }

    private static String tryOne(String[] mutant, Path dir) throws Exception {
        Path original = mutant[0].startsWith("readme") ? README : CLASS;
        String text = Files.readString(original);
        int at = text.indexOf(mutant[1]);
        if (at < 0 || text.indexOf(mutant[1], at + 1) >= 0) {
            return "stands not just once in the file: " + mutant[1];
        }
        Path broken = dir.resolve(original.getFileName());
        Files.writeString(broken, text.replace(mutant[1], mutant[2]));
        String test = testOf(mutant[0]);
        // These two read the broken file; the others use the class that is made from it.
        boolean reads = test.equals("LanguageTest") || test.equals("ReadmeTest");
        int code = ToolProvider.getSystemJavaCompiler().run(null, null, null, "-encoding", "UTF-8",
                "-sourcepath", "src/test/support", "-d", dir.toString(), (reads ? CLASS : broken).toString(),
                "src/test/java/" + test + ".java");
        if (code != 0) {
            return "does not compile: " + mutant[2];
        }
        String printed = printed(dir, reads ? List.of(test, broken.toString()) : List.of(test));
        return printed.lines().anyMatch(l -> l.startsWith(mutant[0])) ? ""
                : "no test failed for " + mutant[0] + "\n    " + mutant[1] + "\n    " + mutant[2];
    }

    private static String printed(Path dir, List<String> testAndFile) throws Exception {
        Path out = dir.resolve("out.txt");
        List<String> command = new ArrayList<>(List.of("java", "-cp", dir.toString()));
        command.addAll(testAndFile);
        Process run = new ProcessBuilder(command).redirectErrorStream(true).redirectOutput(out.toFile()).start();
        if (!run.waitFor(60, TimeUnit.SECONDS)) {
            run.destroyForcibly();
        }
        return Files.readString(out);
    }

    private static String tryAndCleanUp(String[] mutant) throws Exception {
        Path dir = Files.createTempDirectory("mutant");
        String answer = tryOne(mutant, dir);
        try (Stream<Path> files = Files.list(dir)) {
            for (Path file : files.toList()) {
                Files.delete(file);
            }
        }
        Files.delete(dir);
        return answer;
    }

    private static List<String[]> mutants(String start) throws IOException {
        List<String> lines = new ArrayList<>(Files.readAllLines(Path.of("src/test/mutants/mutants.txt")));
        lines.removeIf(String::isBlank);
        List<String[]> all = new ArrayList<>();
        for (int i = 0; i + 2 < lines.size(); i += 3) {
            if (lines.get(i).startsWith(start)) {
                all.add(new String[] {lines.get(i).strip(), unfolded(lines.get(i + 1)), unfolded(lines.get(i + 2))});
            }
        }
        return all;
    }

    private static String unfolded(String line) {
        return line.strip().replace("\\n", "\n");
    }

    public static void main(String[] args) throws Exception {
        ExecutorService pool = Executors.newFixedThreadPool(Runtime.getRuntime().availableProcessors());
        List<Future<String>> answers = new ArrayList<>();
        for (String[] mutant : mutants(String.join(" ", args))) {
            answers.add(pool.submit(() -> tryAndCleanUp(mutant)));
        }
        int alive = 0;
        for (Future<String> answer : answers) {
            if (!answer.get().isEmpty()) {
                alive++;
                System.out.println(answer.get());
            }
        }
        pool.shutdown();
        System.out.println(answers.size() + " mutants, " + alive + " not seen by their test");
        System.exit(alive == 0 ? 0 : 1);
    }
}
