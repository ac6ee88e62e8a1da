/** Each sentence of the document that names a boundary case, with checks of its own. */
public final class EdgesTest {
    public static void main(String[] args) {
        Edges e = new Edges();
        RefusalEdges.run(e);
        SheetEdges.run(e);
        RowEdges.run(e);
        TextEdges.run(e);
        MadeEdges.run(e);
        HouseEdges.run(e);
        FitEdges.run(e);
        ShyEdges.run(e);
        AskedEdges.run(e);
        e.end();
    }
}
