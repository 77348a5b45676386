/** The boundary cases that the document names, promise by promise, each from both of its sides. */
public final class EdgesTest {
    public static void main(String[] args) {
        SetupEdges.all();
        TellingEdges.all();
        SquareEdges.all();
        ReckoningEdges.all();
        FetchingEdges.all();
        LeavingEdges.all();
        ShowingEdges.all();
        LightEdges.all();
        Edge.finish();
    }
}
