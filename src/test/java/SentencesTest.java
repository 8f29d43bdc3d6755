import java.io.IOException;
import java.nio.file.Path;

/** A test for each sentence of the document, and a look whether one was left out. */
public final class SentencesTest {
    public static void main(String[] args) throws IOException {
        Sentences.read(Path.of("../shared/DOC.md"));
        KeySentences.run();
        DictionarySentences.run();
        WritingSentences.run();
        TimeSentences.run();
        LearningSentences.run();
        Sentences.end();
        Due.end();
    }
}
