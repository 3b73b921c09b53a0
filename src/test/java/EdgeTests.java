/** Each sentence of the document that names an edge, quoted, with a test of its own. */
public final class EdgeTests {
    public static void main(String[] args) throws Exception {
        Doc.read();
        TextEdges.run();
        ActEdges.run();
        KnowEdges.run();
        AheadEdges.run();
        SeenEdges.run();
        Doc.allQuoted();
        Checks.done();
    }
}
