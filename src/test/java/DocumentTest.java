import java.io.IOException;

/** The document from its first line: each sentence in its own words, with answers that are wrong if it is broken. */
public final class DocumentTest {
    public static void main(String[] args) throws IOException {
        FaceSentences.ask();
        TapeSentences.ask();
        DirectorySentences.ask();
        SenderSentences.ask();
        CheckSentences.ask();
        MessageSentences.ask();
        SealSentences.ask();
        WishSentences.ask();
        PromiseSentences.ask();
        Document.finish();
        Gate.finish("DocumentTest");
    }
}
