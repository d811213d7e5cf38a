import java.io.IOException;

/** A test for each sentence of the document, above all for those that name a boundary case. */
public final class SentenceTest {
    private SentenceTest() { }

    public static void main(String[] args) throws IOException {
        Check check = new Check();
        Sentences sentences = new Sentences(check);
        new ErrorSentences(sentences, check).all();
        new TextSentences(sentences, check).all();
        new ValuesSentences(sentences, check).all();
        new SeriesSentences(sentences, check).all();
        new SegmentSentences(sentences, check).all();
        new CulpritSentences(sentences, check).all();
        new EstimateSentences(sentences, check).all();
        sentences.end();
        check.end();
    }
}
