/** For each sentence of the document that names a boundary case: at the edge, inside it, beyond it. */
public final class EdgeTest {
    public static void main(String[] args) throws Exception {
        Edges edges = new Edges();
        TextEdges.tell(edges);
        ActEdges.tell(edges);
        QuestionEdges.tell(edges);
        edges.holdAgainstDocument();
        if (edges.tellAll() != 0) System.exit(1);
    }
}
