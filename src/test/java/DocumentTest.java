import java.io.IOException;
import java.nio.file.Files;
import java.nio.file.Path;

/** The document from its first line to its last: a test for everything that it says. */
public final class DocumentTest {
    static final Path SOURCE = Path.of("src", "main", "java", "CodedCaching.java");

    public static void main(String[] args) throws IOException {
        all(Files.readString(SOURCE));
        Said.lookForGaps();
        Run.end();
    }

    static void all(String source) {
        FaceSentences.all(source);
        TermsSentences.all();
        PromisesSentences.all();
        TermsBoundaries.all();
        CachesBoundaries.all();
        SumsBoundaries.all();
        KnowledgeBoundaries.all();
        ScenariosBoundaries.all();
        SlotsBoundaries.all();
        ErrorsBoundaries.all();
    }
}
