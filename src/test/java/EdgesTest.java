/** Each sentence of the document that names an edge has calls of its own here, and no word of it is left without any. */
public final class EdgesTest {
    public static void main(String[] args) throws Exception {
        Edges edges = new Edges();
        new RefusalEdges(edges).all();
        new WaterEdges(edges).all();
        new ThrowEdges(edges).all();
        new GridEdges(edges).all();
        new BeachEdges(edges).all();
        new SheetEdges(edges).all();
        edges.end();
    }
}
