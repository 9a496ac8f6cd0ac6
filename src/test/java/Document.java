import java.io.IOException;
import java.nio.file.Files;
import java.nio.file.Path;
import java.util.regex.Matcher;
import java.util.regex.Pattern;

/** DOC.md as one line of words, and which of them a test has quoted: a sentence without a test shows. */
final class Document {
    private static final String[] NO_SENTENCES = {
        "^.*?======== (?=1 DRUMS)", "## The public face ```java .*? ```", "## Terms", "```text", "========",
        "Ahead of the calls .*? the interface says: ---- [a-z ]+\\.", "## Promise \\d+: [A-Za-z ]+ (?=`)",
        "## Not promised.*$"};

    private final String words;
    private final boolean[] quoted;

    Document() throws IOException {
        String path = System.getProperty("drumcrank.document", "../shared/DOC.md");
        words = Files.readString(Path.of(path)).replaceAll("\\s+", " ");
        quoted = new boolean[words.length()];
        for (String pattern : NO_SENTENCES) {
            Matcher m = Pattern.compile(pattern).matcher(words);
            while (m.find()) {
                mark(m.start(), m.end());
            }
        }
    }

    private void mark(int from, int to) {
        for (int p = from; p < to; p++) {
            quoted[p] = true;
        }
    }

    /** Whether the words stand in the document; those that do count as quoted. */
    boolean has(String sentence) {
        int at = words.indexOf(sentence);
        if (at >= 0) {
            mark(at, at + sentence.length());
        }
        return at >= 0;
    }

    /** What no test has quoted, or an empty text. */
    String unquoted() {
        StringBuilder left = new StringBuilder();
        for (int p = 0; p < words.length(); p++) {
            if (!quoted[p] && Character.isLetterOrDigit(words.charAt(p))) {
                left.append(words.charAt(p));
            } else if (left.length() > 0 && left.charAt(left.length() - 1) != ' ') {
                left.append(' ');
            }
        }
        return left.toString();
    }
}
