import java.io.IOException;
import java.nio.file.Files;
import java.nio.file.Path;
import java.util.ArrayList;
import java.util.List;

/** Each sentence of the document by tests of its own, which stand behind it in sentences.txt. */
public final class SentencesTest {
    private static final String DOCUMENT = "../shared/DOC.md";
    private static final String TABLE = "src/test/sentences.txt";

    public static void main(String[] args) throws IOException {
        Check.same("the sentences of the table", sentencesOfTable(), sentencesOfDocument());
        checkRuns();
        Check.end("SentencesTest");
    }

    // ---- the document ----

    private static List<String> sentencesOfDocument() throws IOException {
        List<String> sentences = new ArrayList<>();
        boolean isCode = false;
        for (String line : Files.readAllLines(Path.of(DOCUMENT))) {
            if (line.startsWith("```")) {
                isCode = !isCode;
            } else if (!isCode && !line.isBlank() && !line.startsWith("#")) {
                addSentences(sentences, line);
            }
        }
        return sentences;
    }

    /** The one or two words ahead of a paragraph of the terms go with its first sentence. */
    private static void addSentences(List<String> sentences, String line) {
        String open = "";
        for (String part : line.split("(?<=[.]) (?=[A-Z])")) {
            open = open.isEmpty() ? part : open + " " + part;
            if (open.split(" ").length > 2) {
                sentences.add(open);
                open = "";
            }
        }
        if (!open.isEmpty()) {
            sentences.add(open);
        }
    }

    // ---- the table ----

    private static boolean isSentence(String line) {
        return !line.isBlank() && !line.startsWith("# ") && !line.equals("#") && !line.startsWith("==") && !line.startsWith("  ");
    }

    private static List<String> sentencesOfTable() throws IOException {
        List<String> sentences = new ArrayList<>();
        for (String line : Files.readAllLines(Path.of(TABLE))) {
            if (isSentence(line)) {
                sentences.add(line);
            }
        }
        return sentences;
    }

    private static void checkRuns() throws IOException {
        List<String> lines = Files.readAllLines(Path.of(TABLE));
        String sentence = "";
        int tests = 1;
        for (int at = 0; at < lines.size(); at++) {
            String line = lines.get(at);
            if (isSentence(line)) {
                Check.same("there is a test for: " + sentence, tests > 0, true);
                sentence = line;
                tests = 0;
            } else if (line.startsWith("  (")) {
                tests++;
            } else if (line.startsWith("  ") && !line.startsWith("    ")) {
                StringBuilder run = new StringBuilder(line.trim());
                for (int next = at + 1; next < lines.size() && lines.get(next).startsWith("    "); next++) {
                    run.append(' ').append(lines.get(next).trim());
                }
                new Run(run.toString()).check("sentences.txt:" + (at + 1));
                tests++;
            }
        }
        Check.same("there is a test for: " + sentence, tests > 0, true);
    }
}
