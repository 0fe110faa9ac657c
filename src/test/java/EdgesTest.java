import java.io.IOException;

/** The document sentence by sentence: each has a test of its own, on both sides of each bound that it names. */
final class EdgesTest {
    private EdgesTest() { }

    public static void main(String[] args) throws IOException {
        Saying say = new Saying();
        new TextEdges(say).all();
        new BondEdges(say).all();
        new WayEdges(say).all();
        new ChanceEdges(say).all();
        Document document = Document.read();
        if (document != null) {
            for (String open : document.open(say.sections, say.quotes)) {
                say.due(open, false, true);
            }
        }
        say.end("EdgesTest");
    }
}
