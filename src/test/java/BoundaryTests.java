import java.io.IOException;
import java.nio.file.Path;

/** Each sentence of the document that names a boundary has a test of its own; none of its words is left out. */
public final class BoundaryTests {
    private BoundaryTests() {
    }

    public static void main(String[] args) throws IOException {
        Boundaries b = new Boundaries(Path.of("../shared/DOC.md"));
        new TextBoundaries(b).all();
        new LayBoundaries(b).all();
        new LayingBoundaries(b).all();
        new OtherBoundaries(b).all();
        b.close();
    }
}
