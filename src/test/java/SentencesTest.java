/**
 * Each sentence of the document that says what holds, with a test of its own: what stands on its
 * boundary and beyond it, and what a refused call must have left as it was.
 */
public final class SentencesTest {
    public static void main(String[] args) throws java.io.IOException {
        Sentences book = new Sentences();
        new TermSentences(book).all();
        new MapTermSentences(book).all();
        new OrderSentences(book).all();
        new SessionSentences(book).all();
        new EditSentences(book).all();
        new RuleSentences(book).all();
        new SquareSentences(book).all();
        new NeighbourSentences(book).all();
        new VersionSentences(book).all();
        new OverlaySentences(book).all();
        new CoarseAndNameSentences(book).all();
        new FigureSentences(book).all();
        book.end();
    }
}
