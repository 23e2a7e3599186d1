import java.nio.charset.StandardCharsets;
import java.nio.file.Files;
import java.nio.file.Path;

/**
 * Each sentence of the document that names a boundary case, held by a test of its own; a check
 * that fails tells its sentence. The argument is the document's path: what is held must stand
 * there.
 */
public final class SentenceTests {
    public static void main(String[] args) throws Exception {
        Sentences.readDocument(Files.readString(Path.of(args[0]), StandardCharsets.ISO_8859_1));
        UseSentences.all();
        RowSentences.all();
        TextSentences.all();
        FaultSentences.all();
        LineSentences.all();
        CornerSentences.all();
        ForetoldSentences.all();
        AskSentences.all();
        RefusalSentences.all();
        if (!Sentences.end()) {
            System.exit(1);
        }
    }
}
