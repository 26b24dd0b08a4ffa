import java.nio.file.Files;
import java.nio.file.Path;
import java.util.Set;
import java.util.TreeSet;
import java.util.regex.Matcher;
import java.util.regex.Pattern;

/** Looks in the source for what LANGUAGE.md rules out, as far as plain words tell it. */
public final class LanguageTest {
    private static final String[] RULED_OUT = {
        "\\bimport\\b", "\\bpackage\\b", "\\bprotected\\b", "->", "::", "\\btry\\b", "\\bcatch\\b",
        "\\bfinally\\b", "\\bsynchronized\\b", "\\bassert\\b", "\\bstatic\\s*\\{", "\\bnew\\s+Thread\\b",
        "\\bSystem\\b", "\\bMath\\.\\w*Exact\\b", "\\binstanceof\\b", "[/%]", "\\bfloat\\b"};
    private static int wrong = 0;

    private static void fault(String what) {
        wrong++;
        System.out.println(what);
    }

    private static String withoutCommentsAndTexts(String source) {
        return source.replaceAll("(?s)/\\*.*?\\*/", " ").replaceAll("//[^\n]*", " ")
                .replaceAll("\"[^\"]*\"", "\"\"");
    }

    private static void words(String code) {
        // The one division is that of share, behind its test for 0.
        String rest = code.replace("(double) count / preferredTotal", "quotient");
        for (String word : RULED_OUT) {
            Matcher m = Pattern.compile(word).matcher(rest);
            if (m.find()) {
                fault("ruled out: " + m.group());
            }
        }
    }

    private static void methodNames(String code) {
        Set<String> open = new TreeSet<>();
        Set<String> own = new TreeSet<>();
        Matcher m = Pattern.compile("(public|private)( static)? (?:int|long|boolean|double|void) (\\w+)\\(").matcher(code);
        while (m.find()) {
            (m.group(1).equals("public") ? open : own).add(m.group(3));
        }
        own.retainAll(open);
        if (!own.isEmpty()) {
            fault("private methods that bear the name of a public one: " + own);
        }
        if (open.size() != 26) {
            fault("public methods: " + open);
        }
    }

    private static void exceptions(String code) {
        Matcher m = Pattern.compile("throw\\s+([^;]*);").matcher(code);
        while (m.find()) {
            if (!m.group(1).matches("new (IllegalState|IllegalArgument|IndexOutOfBounds)Exception\\((\"\")?\\)")) {
                fault("not a plain throw: " + m.group(1));
            }
        }
    }

    /** Rows are made in constructors alone, so that a run of calls makes nothing. */
    private static void whatIsMade(String code) {
        Matcher m = Pattern.compile("\\n( +)(?:(\\w+) = )?[^\\n]*\\bnew (\\w+)").matcher(code);
        while (m.find()) {
            boolean row = m.group(2) != null && m.group(1).length() >= 8;
            if (!row && !m.group(3).endsWith("Exception")) {
                fault("made outside a constructor: " + m.group(3));
            }
        }
    }

    public static void main(String[] args) throws Exception {
        String source = Files.readString(Path.of("src/main/java/DefaultReasoner.java"));
        String code = withoutCommentsAndTexts(source);
        words(code);
        methodNames(code);
        exceptions(code);
        whatIsMade(code);
        if (!source.chars().allMatch(c -> c < 127)) {
            fault("a sign beyond 126");
        }
        System.out.println(wrong == 0 ? "the source keeps to the rules that are looked at" : wrong + " faults");
        if (wrong != 0) {
            System.exit(1);
        }
    }
}
