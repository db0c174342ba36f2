/** Every sentence of the document, but for 'Not promised', has a test of its own, and holds. */
public final class DocumentTest {
    private static final String[] SECTIONS = {"What it is", "The public face", "Terms",
        "Promise 1: A new object", "Promise 2: add", "Promise 3: clear", "Promise 4: run", "Promise 5: runAll",
        "Promise 6: told", "Promise 7: cell", "Promise 8: counter", "Promise 9: count"};

    public static void main(String[] args) {
        Sentences doc = new Sentences();
        new FaceSentences(doc).all();
        new TermSentences(doc).all();
        new OpSentences(doc).all();
        new PromiseSentences(doc).all();
        for (String section : SECTIONS) {
            doc.whole(section);
        }
        doc.end("DocumentTest");
    }
}
