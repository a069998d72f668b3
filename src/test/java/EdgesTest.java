/**
 * The document sentence by sentence, in its words: the edges that each one names (too small, too large, empty, full, a
 * wrap-around, a refused call). A sentence that is not quoted, or behind which no row stands, is a fault, too.
 */
public final class EdgesTest {
    public static void main(String[] args) throws Exception {
        Edges edges = new Edges();
        new TermsEdges(edges).ask();
        new ChildrenEdges(edges).ask();
        new RoundsEdges(edges).ask();
        new BestEdges(edges).ask();
        new TextEdges(edges).ask();
        new SheetsEdges(edges).ask();
        new ImagesEdges(edges).ask();
        edges.end();
    }
}
