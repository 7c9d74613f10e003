import java.io.IOException;

/** The document from its first line: each of its sentences with a test of its own that quotes it. */
public final class DocumentTest {
    public static void main(String[] args) throws IOException {
        BuildingBoundaries.hold();
        AnalysisBoundaries.hold();
        RunsBoundaries.hold();
        StateBoundaries.hold();
        OtherSentences.hold();
        Sentence.end();
        Script.end("DocumentTest");
    }
}
