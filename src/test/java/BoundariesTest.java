import java.io.IOException;

/** Each sentence of the document that names a boundary case, with a test of its own. */
public final class BoundariesTest {
    public static void main(String[] args) throws IOException {
        BuildingBoundaries.hold();
        AnalysisBoundaries.hold();
        RunsBoundaries.hold();
        StateBoundaries.hold();
        Sentence.end();
        Script.end("BoundariesTest");
    }
}
