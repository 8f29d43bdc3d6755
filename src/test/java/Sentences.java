import java.io.IOException;
import java.nio.file.Files;
import java.nio.file.Path;
import java.util.ArrayList;
import java.util.BitSet;
import java.util.List;

/** The words of the document, part by part, and which of them a test has stood for. */
final class Sentences {
    static final int TERMS = 0;
    private static final int PROMISES = 49;
    private static final List<String> PARTS = new ArrayList<>();
    private static final List<BitSet> TESTED = new ArrayList<>();

    private Sentences() {
    }

    static void read(Path path) throws IOException {
        String all = Files.readString(path);
        add(between(all, "## Terms", "<p>Examples:").replaceAll("<h2>.*</h2>", " "));
        for (int i = 1; i <= PROMISES; i++) {
            String end = i < PROMISES ? "## Promise " + (i + 1) + ":" : "## Not promised";
            String part = between(all, "## Promise " + i + ":", end);
            add(part.substring(part.indexOf("`: ") + 3));
        }
    }

    private static String between(String all, String begin, String end) {
        int from = all.indexOf(begin) + begin.length();
        return all.substring(from, all.indexOf(end, from));
    }

    private static void add(String part) {
        PARTS.add(plain(part));
        TESTED.add(new BitSet());
    }

    private static String plain(String words) {
        return words.replace("`", "").replaceAll("(?m)^- ", "").replaceAll("\\s+", " ").trim();
    }

    /** The answers that follow are those by which these words are tested: of the terms, or of a promise by its number. */
    static void of(int part, String words) {
        Due.by(part == TERMS ? words : "Promise " + part + ": " + words);
        int at = PARTS.get(part).indexOf(words);
        Due.is("the document", at >= 0, true);
        if (at >= 0) {
            TESTED.get(part).set(at, at + words.length());
        }
    }

    /** Each word of the document is due to be one that a test stood for. */
    static void end() {
        for (int i = 0; i < PARTS.size(); i++) {
            String part = PARTS.get(i);
            BitSet tested = TESTED.get(i);
            Due.by(i == TERMS ? "Terms" : "Promise " + i);
            StringBuilder left = new StringBuilder();
            for (int k = 0; k < part.length(); k++) {
                left.append(tested.get(k) ? ' ' : part.charAt(k));
            }
            Due.is("words without a test", left.toString().replaceAll("\\s+", " ").trim(), "");
        }
    }
}
