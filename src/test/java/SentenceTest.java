import java.io.IOException;
import java.nio.file.Path;

/** Each sentence of the document has a test of its own; a sentence without one is told and is wrong. */
public final class SentenceTest {
    public static void main(String[] args) throws IOException {
        Sentences s = new Sentences(Path.of("../shared/DOC.md"));
        TermsSentences.tell(s);
        StateSentences.tell(s);
        ProgramSentences.tell(s);
        ActionSentences.tell(s);
        LookSentences.tell(s);
        s.end();
    }
}
