/** Every sentence of the document that names a boundary: just inside it, at it, just outside it. */
public final class BoundariesTest extends Edges {
    private BoundariesTest() {
    }

    public static void main(String[] args) {
        TapeEdges.all();
        TextEdges.all();
        LimitEdges.all();
        BarEdges.all();
        TownEdges.all();
        ActEdges.all();
        AloneEdges.all();
        TogetherEdges.all();
        FoundEdges.all();
        ImageEdges.all();
        allTold();
        finish(sentences + " sentences");
    }
}
