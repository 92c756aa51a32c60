/** Each sentence of the document that names an edge, or a refusal, has a test of its own. */
public final class EdgesTest {
    public static void main(String[] args) throws Exception {
        int broken = Sentences.broken(TextEdges.class, TownEdges.class, WaysEdges.class, SeenEdges.class, SheetEdges.class);
        if (broken != 0) System.exit(1);
    }
}
