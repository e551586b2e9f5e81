import java.io.IOException;

/** Each sentence of the document that names a boundary case has a test of its own here. */
public final class BoundariesTest {
    private BoundariesTest() {
    }

    public static void main(String[] args) throws IOException {
        Boundary b = new Boundary();
        new TableBoundaries(b).all();
        new KindBoundaries(b).all();
        new AnswerBoundaries(b).all();
        new FormBoundaries(b).all();
        new EquationBoundaries(b).all();
        new LatticeBoundaries(b).all();
        b.end();
    }
}
