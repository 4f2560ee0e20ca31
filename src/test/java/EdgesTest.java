import java.io.IOException;

/**
 * Every sentence of the document that names an edge, quoted, with what is due on both sides of it;
 * fails also where words of the document are quoted by no test.
 */
public final class EdgesTest {
    public static void main(String[] args) throws IOException {
        Edges edges = new Edges();
        new CircuitEdges(edges).run();
        new TextEdges(edges).run();
        new CodeEdges(edges).run();
        new WiresEdges(edges).run();
        new StucksEdges(edges).run();
        new ChangesEdges(edges).run();
        new RefusalEdges(edges).run();
        edges.end();
    }
}
