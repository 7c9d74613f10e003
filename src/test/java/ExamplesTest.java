/** The document's four examples, word for word: each call with the result that is given behind it. */
public final class ExamplesTest {
    static final String[] TITLES = {
        "A copy whose record disappears: all partitions become scalars",
        "A load that overlaps the store keeps the record; an escape adds to the checksum",
        "A copy is cut where a partition of the source begins; a load makes its partitions live",
        "Arguments that are not possible, and an addition that traps"};
    static final String[] CALLS = {
        "declareRecord(8) = 0; declareRecord(8) = 1; appendConstant(0,258) = 0; appendStore(0,0,4,0) = 1; appendCopy(1,4,0,0,4) = 2; appendLoad(1,1,4,4) = 3; appendOutput(1) = 4; partitionCount(0) = 1; partitionStart(1,0) = 4; isPromotable(0,0) = 1; scalarCount() = 2; paddingBytes(1) = 4; cost(0) = 6; cost(1) = 0; outputAt(1,0) = 258",
        "declareRecord(4) = 0; appendConstant(0,-2) = 0; appendStore(0,0,4,0) = 1; appendLoad(1,0,1,2) = 2; appendOutput(1) = 3; partitionCount(0) = 1; isPromotable(0,0) = 0; outputAt(0,0) = 65535; appendEscape(0) = 4; escapes(0) = 1; checksum(0) = 7820129; isPromotable(0,0) = 0; cost(0) = 6",
        "declareRecord(4) = 0; declareRecord(4) = 1; appendStore(0,0,2,0) = 0; appendCopy(1,0,0,0,4) = 1; partitionCount(0) = 2; partitionCount(1) = 1; pieceCount(1) = 2; isLive(0,0) = 0; appendLoad(2,1,0,4) = 2; partitionCount(1) = 1; pieceCount(1) = 2; isPromotable(0,0) = 1; isPromotable(1,0) = 0; isLive(0,1) = 1",
        "declareRecord(17) = -1; declareRecord(4) = 0; appendStore(0,2,4,0) = -1; appendCopy(0,0,0,1,2) = -1; appendConstant(0,2147483647) = 0; appendAdd(1,0,0) = 1; appendOutput(1) = 2; trapPosition() = 1; outputCount(0) = 0"};

    public static void main(String[] args) {
        for (int number = 0; number < CALLS.length; number++) {
            Script.run("example " + (number + 1), CALLS[number]);
        }
        Script.same("calls of the four examples", Script.answers(), 51);
        Script.end("ExamplesTest");
    }
}
