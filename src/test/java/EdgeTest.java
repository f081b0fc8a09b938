/**
 * A test for each sentence of the document that names an edge: too small, too great, empty, full, gone round, refused.
 * Each test names its part of the document and the sentence. If the document lies beside the checkout, a NOTICE is
 * printed for each sentence that it does not have there, and for each edge of it that no test names: the tests are to be
 * looked at again then, but the class is not wrong by it.
 */
public final class EdgeTest {
    public static void main(String[] args) {
        Check check = new Check("EdgeTest");
        Document document = new Document();
        Edges edges = new Edges(check, document);
        new EdgeTerms(edges).run();
        new EdgeText(edges).run();
        new EdgeTide(edges).run();
        new EdgeTried(edges).run();
        new EdgeSeen(edges).run();
        new EdgeCalls(edges).run();
        new EdgeAsked(edges).run();
        for (String edge : document.unnamed()) {
            System.out.println("NOTICE: no test names " + edge);
        }
        check.end();
    }
}
