import java.io.IOException;
import java.nio.file.Files;
import java.nio.file.Path;

/** Each sentence of the document has a test, and what names an edge a test of its own. */
public final class SentencesTest {
    private SentencesTest() {
    }

    public static void main(String[] args) throws IOException {
        SentencesOfDays.all();
        SentencesOfTexts.all();
        SentencesOfLaw.all();
        SentencesOfCosts.all();
        SentencesOfTown.all();
        SentencesOfCalls.all();
        Path document = Path.of("../shared/DOC.md");
        if (Files.exists(document)) {
            Sentence.compareWith(document);
        } else {
            System.out.println("there is no " + document + " to compare the sentences with");
        }
        Checks.end();
    }
}
