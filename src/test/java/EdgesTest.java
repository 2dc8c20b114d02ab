import java.io.IOException;
import java.nio.file.Path;

/** Every sentence of the document that names an edge, with a test of its own; args[1] is its path. */
public final class EdgesTest {
    public static void main(String[] args) throws IOException {
        Edges edges = new Edges(Path.of(args.length > 1 ? args[1] : "../shared/DOC.md"));
        new RowEdges(edges).go();
        new ReadingEdges(edges).go();
        new ActEdges(edges).go();
        new ForetoldEdges(edges).go();
        new AskedEdges(edges).go();
        new RefusedEdges(edges).go();
        edges.end();
    }
}
