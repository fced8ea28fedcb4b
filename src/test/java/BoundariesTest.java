import java.io.IOException;
import java.nio.file.Path;

/**
 * For each sentence of the document that names a boundary a test of its own, under that sentence:
 * the last input that is still allowed, the first one that is not any more. It fails too if such a
 * sentence of the document has no test.
 */
public final class BoundariesTest {
    public static void main(String[] args) throws IOException {
        Sentences sentences = new Sentences(Path.of(System.getProperty("streets.document", "../shared/DOC.md")));
        TermsBoundaries.all(sentences);
        TownBoundaries.all(sentences);
        NamesBoundaries.all(sentences);
        LettersBoundaries.all(sentences);
        PostmenBoundaries.all(sentences);
        CouncilBoundaries.all(sentences);
        KeptBoundaries.all(sentences);
        sentences.finish();
    }
}
