import java.io.IOException;
import java.nio.charset.StandardCharsets;
import java.nio.file.Files;
import java.nio.file.Path;

/** Each sentence of the document, one after the other: what lies just inside its boundaries and just outside. */
public final class SentencesTest {
    private static final Path DOCUMENT = Path.of("../shared/DOC.md");

    public static void main(String[] args) throws IOException {
        Checks checks = new Checks("SentencesTest");
        Sentences sentences = new Sentences(checks);
        new TermsSentences(sentences).check();
        new TextTermsSentences(sentences).check();
        new PrintingSentences(sentences).check();
        new TextsSentences(sentences).check();
        new LooksSentences(sentences).check();
        new GuessesSentences(sentences).check();
        if (Files.exists(DOCUMENT)) {
            sentences.areThoseOf(Files.readAllLines(DOCUMENT, StandardCharsets.UTF_8));
        } else {
            System.out.println("SentencesTest: " + DOCUMENT + " is not there to be compared");
        }
        checks.end();
    }
}
