import java.io.IOException;
import java.nio.file.Path;

/** Every sentence of the document that names a boundary case, with a test of its own. */
public final class EdgeTests {
    public static void main(String[] args) throws IOException {
        Edges edges = new Edges(Path.of("../shared/DOC.md"));
        TextEdges.tell(edges);
        BeatEdges.tell(edges);
        ComesEdges.tell(edges);
        GustEdges.tell(edges);
        KindEdges.tell(edges);
        edges.areAllTested();
        Check.end("EdgeTests");
    }
}
