import java.io.IOException;
import java.nio.file.Files;
import java.nio.file.Path;
import java.util.BitSet;
import java.util.List;

/** The sentences that the boundary tests name, held against the document: each stands there, and none there is left out. */
final class Sentences {
    private static final Path DOCUMENT = Path.of("../shared/DOC.md");
    private static final int PROMISES = 22;

    private final List<Due.Edge> edges;
    private final Due due = new Due();
    private final BitSet named = new BitSet();
    private String document;

    Sentences(List<Due.Edge> edges) {
        this.edges = edges;
    }

    void run() throws IOException {
        document = plain(Files.readString(DOCUMENT));
        boolean[] tested = new boolean[PROMISES + 1];
        for (Due.Edge edge : edges) {
            String sentence = plain(edge.sentence());
            int times = name(sentence, "## What it is ", "## The public face");
            times += name(sentence, "## Terms ", "## Promise 1:");
            times += name(sentence, promise(edge.promise()), promise(edge.promise() + 1));
            due.is("in the document: " + edge, Math.min(times, 1), 1);
            tested[edge.promise()] = true;
        }
        for (int n = 1; n <= PROMISES; n++) due.is("promise " + n + " has a boundary test", tested[n] ? 1 : 0, 1);
        leftOut();
        due.finish();
    }

    private static String plain(String text) {
        return text.replaceAll("\\s+", " ");
    }

    private static String promise(int number) {
        return number > PROMISES ? "## Not promised" : "## Promise " + number + ":";
    }

    /** Marks the sentence wherever it stands between two headings; how often it does. */
    private int name(String sentence, String from, String to) {
        int start = document.indexOf(from), end = document.indexOf(to), times = 0;
        for (int at = document.indexOf(sentence, start); at >= 0 && at < end; at = document.indexOf(sentence, at + 1)) {
            named.set(at, at + sentence.length());
            times++;
        }
        return times;
    }

    /** Between the sentences that tests name stand headings, signatures and signs, and no other word. */
    private void leftOut() {
        int start = document.indexOf("## Terms "), end = document.indexOf("## Not promised");
        StringBuilder rest = new StringBuilder();
        for (int i = start; i < end; i++) rest.append(named.get(i) ? '|' : document.charAt(i));
        String words = rest.toString().replaceAll("\\|+", "|").replaceAll("## (Terms|Promise \\d+: \\w*)", "")
            .replaceAll("Ahead of the calls .* the interface says: ---- causes, tests\\.", "")
            .replaceAll("```(text)?|======== \\d|`[^`|]*`:", "");
        due.is("letters that no boundary test names, in " + words, words.replaceAll("[^A-Za-z]", "").length(), 0);
    }
}
