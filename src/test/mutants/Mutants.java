import java.io.IOException;
import java.nio.file.Files;
import java.nio.file.Path;
import java.util.ArrayList;
import java.util.List;
import java.util.concurrent.ExecutorService;
import java.util.concurrent.Executors;
import java.util.concurrent.Future;
import java.util.concurrent.TimeUnit;
import javax.tools.ToolProvider;

/**
 * Breaks the class, one place at a time, and looks whether the test of the sentence that is broken
 * then fails. Run by hand, from the project's root: java src/test/mutants/Mutants.java
 *
 * mutants.txt has three lines for each: the sentence's beginning as the tests print it, what stands
 * in the source (just once; \\n is a new line), and what is put there.
 */
public final class Mutants {
    private static final Path SOURCE = Path.of("src/main/java/DefaultReasoner.java");
    private static final String[] TESTS = {"DescriptionEdgesTest", "PromiseEdgesTest"};

    private static String tryOne(String[] mutant, Path dir) throws Exception {
        String source = Files.readString(SOURCE);
        int at = source.indexOf(mutant[1]);
        if (at < 0 || source.indexOf(mutant[1], at + 1) >= 0) {
            return "stands not just once in the source: " + mutant[1];
        }
        Path file = dir.resolve("DefaultReasoner.java");
        Files.writeString(file, source.replace(mutant[1], mutant[2]));
        String test = TESTS[mutant[0].startsWith("description") ? 0 : 1];
        int code = ToolProvider.getSystemJavaCompiler().run(null, null, null, "-sourcepath", "src/test/support",
                "-d", dir.toString(), file.toString(), "src/test/java/" + test + ".java");
        if (code != 0) {
            return "does not compile: " + mutant[2];
        }
        return printed(test, dir).lines().anyMatch(l -> l.startsWith(mutant[0])) ? ""
                : "no test failed for " + mutant[0] + "\n    " + mutant[1] + "\n    " + mutant[2];
    }

    private static String printed(String test, Path dir) throws Exception {
        Path out = dir.resolve("out.txt");
        Process run = new ProcessBuilder("java", "-cp", dir.toString(), test)
                .redirectErrorStream(true).redirectOutput(out.toFile()).start();
        if (!run.waitFor(60, TimeUnit.SECONDS)) {
            run.destroyForcibly();
        }
        return Files.readString(out);
    }

    private static List<String[]> mutants() throws IOException {
        List<String> lines = new ArrayList<>(Files.readAllLines(Path.of("src/test/mutants/mutants.txt")));
        lines.removeIf(String::isBlank);
        List<String[]> all = new ArrayList<>();
        for (int i = 0; i + 2 < lines.size(); i += 3) {
            all.add(new String[] {lines.get(i).strip(), unfolded(lines.get(i + 1)), unfolded(lines.get(i + 2))});
        }
        return all;
    }

    private static String unfolded(String line) {
        return line.strip().replace("\\n", "\n");
    }

    public static void main(String[] args) throws Exception {
        ExecutorService pool = Executors.newFixedThreadPool(Runtime.getRuntime().availableProcessors());
        List<Future<String>> answers = new ArrayList<>();
        for (String[] mutant : mutants()) {
            answers.add(pool.submit(() -> tryOne(mutant, Files.createTempDirectory("mutant"))));
        }
        int alive = 0;
        for (Future<String> answer : answers) {
            if (!answer.get().isEmpty()) {
                alive++;
                System.out.println(answer.get());
            }
        }
        pool.shutdown();
        System.out.println(answers.size() + " mutants, " + alive + " not seen by their sentence's test");
        System.exit(alive == 0 ? 0 : 1);
    }
}
