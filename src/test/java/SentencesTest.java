import java.io.IOException;
import java.nio.file.Path;

/** Every sentence of the document, above all those that name a bound, with a run of its own; takes the document's path. */
public final class SentencesTest {
    public static void main(String[] args) throws IOException {
        Sentences.read(Path.of(args.length > 0 ? args[0] : "../shared/DOC.md"));
        SentencesOfTerms.all();
        SentencesOfRows.all();
        SentencesOfReckoning.all();
        SentencesOfRefusals.all();
        SentencesOfCopies.all();
        SentencesOfHolds.all();
        SentencesOfDays.all();
        SentencesOfAsks.all();
        SentencesOfImages.all();
        Sentences.lookForLeftOut();
        Script.end();
    }
}
