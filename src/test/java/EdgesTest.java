import java.io.IOException;
import java.nio.file.Path;

/** Each sentence of the document, with its edges: what it allows last, and what it refuses first. */
public final class EdgesTest {
    private EdgesTest() {
    }

    public static void main(String[] args) throws IOException {
        Sentences s = new Sentences(Path.of("../shared/DOC.md"));
        TermsEdges.all(s);
        LinesEdges.all(s);
        BlocksEdges.all(s);
        SpotsEdges.all(s);
        TextsEdges.all(s);
        UndoEdges.all(s);
        LooksEdges.all(s);
        WouldBeEdges.all(s);
        s.allAreNamed();
        Due.end();
    }
}
