/**
 * A test for each sentence of the document that names an edge: too small, too great, empty, full, gone round, refused.
 * Each test names its part of the document and the sentence; if the document lies beside the checkout, it must have that
 * sentence there, and no sentence with an edge may be left without a test.
 */
public final class EdgeTest {
    public static void main(String[] args) {
        Check check = new Check("EdgeTest");
        Document document = new Document();
        Edges edges = new Edges(check, document);
        new EdgeTerms(edges).run();
        new EdgeText(edges).run();
        new EdgeTide(edges).run();
        new EdgeTried(edges).run();
        new EdgeSeen(edges).run();
        new EdgeCalls(edges).run();
        new EdgeAsked(edges).run();
        for (String edge : document.unnamed()) {
            check.holds("no test names: " + edge, false);
        }
        check.end();
    }
}
