/** The document, from its first line: cases of all its words, each from both of its sides where it has two. */
public final class EdgesTest {
    public static void main(String[] args) {
        TermsEdges.all();
        SetupEdges.all();
        TellingEdges.all();
        SquareEdges.all();
        ReckoningEdges.all();
        FetchingEdges.all();
        LeavingEdges.all();
        ShowingEdges.all();
        LightEdges.all();
        Edge.finish();
    }
}
