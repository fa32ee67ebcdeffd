import java.io.IOException;

/**
 * The document read sentence by sentence: a test of its own for each that names a boundary case. It
 * fails, too, when a test names words that the document has not, or when words are left without one.
 */
public final class EdgeTest {
    public static void main(String[] args) throws IOException {
        Check check = new Check();
        Document document = Document.isThere() ? new Document() : null;
        Edges[] parts = {
            new FaceEdges(check, document),
            new ExpressionEdges(check, document),
            new StatementEdges(check, document),
            new ErrorEdges(check, document),
            new ReadEdges(check, document),
            new BoardEdges(check, document),
            new RunEdges(check, document),
        };
        for (Edges part : parts) {
            part.all();
        }
        if (document == null) {
            System.out.println("no document here, so the sentences were not looked for in it");
        } else if (!document.unnamed().isEmpty()) {
            check.due("no test for " + document.unnamed(), false, true);
        }
        check.finish();
    }
}
