import java.io.IOException;
import java.nio.file.Files;
import java.nio.file.Path;
import java.util.ArrayList;
import java.util.List;

/** Tests that belong to one sentence of the document each, told by its words. */
class Sentences extends Checks {
    private static final Path DOCUMENT = Path.of("../shared/DOC.md");
    /** The part before promise 1 has the number 0. */
    private static int part = 0;
    private static final List<List<String>> tested = new ArrayList<>();

    static void promise(int number) {
        part = number;
    }

    /** Runs the test of a sentence, or of a piece of one. */
    static void sentence(String words, Call test) {
        at((part == 0 ? "description" : "promise " + part) + ", '" + words + "'");
        while (tested.size() <= part) {
            tested.add(new ArrayList<>());
        }
        tested.get(part).add(words);
        try {
            test.run();
        } catch (RuntimeException e) {
            fault("a call that should have answered threw " + e);
        }
    }

    /** Each quoted sentence stands in its part of the document, and each sentence there is quoted. */
    static void allSentencesAreTested(int from, int to) throws IOException {
        if (!Files.exists(DOCUMENT)) {
            System.out.println("no " + DOCUMENT + " here: the sentences are tested, but not held against it");
            return;
        }
        String[] parts = Files.readString(DOCUMENT).replace("`", "").split("\n## (Promise \\d+:|Not promised)");
        for (int i = from; i <= to; i++) {
            at(i == 0 ? "description" : "promise " + i);
            holdAgainst(piecesOf(parts[i]), tested.get(i));
        }
    }

    private static void holdAgainst(List<String> pieces, List<String> quotes) {
        for (String quote : quotes) {
            is("'" + quote + "' stands in the document", pieces.stream().anyMatch(p -> p.contains(quote)), true);
        }
        for (String piece : pieces) {
            is("a test for '" + piece + "'", quotes.stream().anyMatch(piece::contains), true);
        }
    }

    /** The sentences; not titles, signatures, parameters, and what only says what comes. */
    private static List<String> piecesOf(String text) {
        int start = text.indexOf("An object is used for");
        List<String> pieces = new ArrayList<>();
        boolean code = false;
        String[] lines = text.substring(Math.max(start, 0)).split("\n");
        for (int i = start < 0 ? 1 : 0; i < lines.length; i++) {
            String line = lines[i].strip();
            code ^= line.startsWith("java") || line.equals("}");
            if (code || line.isEmpty() || line.matches("[-#}].*|.*\\) throws .*|[\\w ]+\\([\\w ,]*\\)")) {
                continue;
            }
            for (String piece : line.split("(?<=\\.) ")) {
                if (piece.contains(" ") && !piece.startsWith("The constructor and the methods follow")) {
                    pieces.add(piece);
                }
            }
        }
        return pieces;
    }
}
