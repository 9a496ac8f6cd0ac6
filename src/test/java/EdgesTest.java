/** Every sentence of the document that names an edge, each with a test of its own under its own words. */
public final class EdgesTest {
    public static void main(String[] args) throws Exception {
        Document document = new Document();
        Check check = new Check();
        new DrumEdges(document, check).run();
        new TurnEdges(document, check).run();
        new ProductEdges(document, check).run();
        new TrialEdges(document, check).run();
        new TextEdges(document, check).run();
        new StateEdges(document, check).run();
        check.holds("every sentence is quoted by a test, but for: " + document.unquoted(),
                document.unquoted().isEmpty());
        check.end();
    }
}
