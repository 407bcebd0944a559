import java.io.IOException;

/** Each sentence of the document under its own head, at the bounds that it names; fails if one has no test. */
public final class BoundsTest {
    public static void main(String[] args) throws IOException {
        Document doc = Document.read();
        new TermsBounds(doc).all();
        new TermsMoneyBounds(doc).all();
        new TellingBounds(doc).all();
        new AskingBounds(doc).all();
        doc.end();
        Check.end("BoundsTest");
    }
}
