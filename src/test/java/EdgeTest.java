import java.io.IOException;

/** Each sentence of the document by itself, at its edges: too small, too large, empty, full, around, refused. */
public final class EdgeTest {
    private EdgeTest() {
    }

    public static void main(String[] args) throws IOException {
        Doc.read();
        Refusals.all();
        ValleyEdges.all();
        TextEdges.all();
        SlateEdges.all();
        TrialEdges.all();
        KeptEdges.all();
        Doc.allAreNamed();
        Due.end("EdgeTest");
    }
}
