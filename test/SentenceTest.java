import java.io.IOException;

/** Each sentence of the document, quoted, and answers by it; and whether the whole document is quoted. */
public final class SentenceTest {
    public static void main(String[] args) throws IOException {
        TermSentences.ask();
        TextSentences.ask();
        StateSentences.ask();
        BreakSentences.ask();
        GameSentences.ask();
        ActSentences.ask();
        if (!Sentences.finish()) {
            System.exit(1);
        }
    }
}
