/** Promises 15 to 25: escapes, partitions, pieces, promotable and live partitions, and their counts. */
public final class AnalysisTest {
    private static final String[] WRONG = {"-1", "3", "-2147483648", "2147483647"};

    public static void main(String[] args) {
        wrongArguments();
        escapes();
        hardPartitions();
        softPartitions();
        copyInsideOneRecord();
        afterRemovals();
        pieces();
        promotable();
        live();
        counts();
        Script.end("AnalysisTest");
    }

    /** Three records; record 1 has two partitions, instruction 1 is a COPY with two pieces. */
    private static void wrongArguments() {
        StringBuilder text = new StringBuilder("declareRecord(8) = 0; declareRecord(8) = 1; declareRecord(1) = 2;"
                + "appendLoad(0,1,0,2) = 0; appendCopy(0,0,1,0,4) = 1; appendEscape(2) = 2;");
        for (String wrong : WRONG) {
            for (String name : new String[] {"escapes", "partitionCount", "paddingBytes", "pieceCount"}) {
                text.append(name).append('(').append(wrong).append(") = -1;");
            }
            for (String name : new String[] {"partitionStart", "partitionLength", "isPromotable", "isLive", "pieceLength"}) {
                text.append(name).append('(').append(wrong).append(",0) = -1;");
                text.append(name).append("(1,").append(wrong).append(") = -1;");
            }
        }
        Script.run("wrong arguments", text + """
            partitionStart(1,1) = 2; partitionStart(1,2) = -1; partitionLength(1,1) = 2; partitionLength(1,2) = -1
            isPromotable(1,1) = 1; isPromotable(1,2) = -1; isLive(1,1) = 0; isLive(1,2) = -1
            pieceCount(0) = -1; pieceCount(1) = 2; pieceCount(2) = -1; pieceLength(0,0) = -1; pieceLength(2,0) = -1
            pieceLength(1,0) = 2; pieceLength(1,1) = 2; pieceLength(1,2) = -1
            """);
    }

    private static void escapes() {
        Script.run("promise 15", """
            declareRecord(6) = 0; declareRecord(6) = 1; escapes(0) = 0; escapes(1) = 0
            appendStore(0,0,2,0) = 0; appendLoad(1,0,4,1) = 1; appendCopy(1,0,0,0,3) = 2
            partitionCount(0) = 3; paddingBytes(0) = 2; escapes(0) = 0
            appendEscape(0) = 3; escapes(0) = 1; escapes(1) = 0
            partitionCount(0) = 1; partitionStart(0,0) = 0; partitionLength(0,0) = 6; paddingBytes(0) = 0
            isPromotable(0,0) = 0; isLive(0,0) = 1; partitionCount(1) = 1; pieceCount(2) = 1
            removeInstruction(3) = 3; escapes(0) = 0; partitionCount(0) = 3; undo() = 6; escapes(0) = 1
            """);
        Script.run("promise 15, an ESCAPE that is not executed counts", """
            declareRecord(2) = 0; appendSkip(0,1) = 0; appendEscape(0) = 1; escapes(0) = 1; isLive(0,0) = 1; checksum(0) = 0; cost(0) = 0
            """);
        Script.run("promise 15, an ESCAPE behind a trap counts", """
            declareRecord(1) = 0; appendConstant(0,-2147483648) = 0; appendAdd(0,0,0) = 1; appendEscape(0) = 2
            escapes(0) = 1; partitionLength(0,0) = 1; isPromotable(0,0) = 0; isLive(0,0) = 1; scalarCount() = 0
            """);
    }

    private static void hardPartitions() {
        Script.run("promises 16 to 18, accesses", """
            declareRecord(16) = 0; partitionCount(0) = 0; paddingBytes(0) = 16
            appendStore(0,0,4,0) = 0; appendStore(0,4,4,0) = 1; partitionCount(0) = 2  # neighbours stay apart
            partitionStart(0,0) = 0; partitionLength(0,0) = 4; partitionStart(0,1) = 4; partitionLength(0,1) = 4
            appendStore(0,15,1,0) = 2; appendLoad(0,10,2,2) = -1; appendLoad(0,0,10,2) = 3; partitionCount(0) = 4
            partitionStart(0,2) = 10; partitionLength(0,2) = 2; partitionStart(0,3) = 15; partitionLength(0,3) = 1
            partitionStart(0,4) = -1; paddingBytes(0) = 5
            appendLoad(0,0,3,2) = 4; partitionCount(0) = 3; partitionLength(0,0) = 8     # a bridge joins them
            appendLoad(0,0,7,4) = 5; partitionCount(0) = 2; partitionLength(0,0) = 12; partitionStart(0,1) = 15
            paddingBytes(0) = 3; undo() = 6; partitionCount(0) = 3; removeInstruction(4) = 4; partitionCount(0) = 4
            """);
        Script.run("promises 16 to 18, accesses that are not executed count", """
            declareRecord(4) = 0; appendSkip(0,9) = 0; appendStore(0,0,2,0) = 1; appendLoad(0,0,1,2) = 2
            partitionCount(0) = 1; partitionLength(0,0) = 3; isLive(0,0) = 1; isPromotable(0,0) = 0
            """);
        Script.run("promises 16 to 18, the order is that of the offsets", """
            declareRecord(8) = 0; appendStore(0,6,1,0) = 0; appendStore(0,2,2,0) = 1; appendStore(0,0,1,0) = 2
            partitionStart(0,0) = 0; partitionStart(0,1) = 2; partitionStart(0,2) = 6; partitionCount(0) = 3
            """);
    }

    private static void softPartitions() {
        Script.run("promises 16 to 18, copies", """
            declareRecord(16) = 0; declareRecord(16) = 1
            appendCopy(0,2,1,2,8) = 0; partitionCount(0) = 1; partitionStart(0,0) = 2; partitionLength(0,0) = 8; paddingBytes(0) = 8
            appendCopy(0,4,1,10,2) = 1; partitionCount(0) = 3; partitionLength(0,0) = 2; partitionLength(0,1) = 2; partitionLength(0,2) = 4
            partitionCount(1) = 2; partitionStart(1,1) = 10; partitionLength(1,1) = 2   # neighbours in other ranges stay apart
            appendCopy(1,2,0,2,8) = 2; partitionCount(0) = 3; partitionCount(1) = 2      # the same bounds cut nothing new
            appendStore(0,5,4,0) = 3; partitionCount(0) = 4
            partitionStart(0,0) = 2; partitionLength(0,0) = 2; partitionStart(0,1) = 4; partitionLength(0,1) = 1
            partitionStart(0,2) = 5; partitionLength(0,2) = 4; partitionStart(0,3) = 9; partitionLength(0,3) = 1
            paddingBytes(0) = 8; paddingBytes(1) = 6
            """);
        Script.run("promises 16 to 18, ranges of two copies side by side", """
            declareRecord(8) = 0; declareRecord(8) = 1; appendCopy(1,0,0,0,2) = 0; appendCopy(0,2,1,4,2) = 1; partitionCount(0) = 2
            appendCopy(0,4,1,6,2) = 2; partitionCount(0) = 3; appendCopy(1,0,0,6,2) = 3; partitionCount(0) = 4; partitionCount(1) = 3
            """);
        Script.run("promises 16 to 18, an access cuts a copy range in two", """
            declareRecord(8) = 0; declareRecord(8) = 1; appendCopy(1,0,0,0,8) = 0; appendStore(0,3,2,0) = 1
            partitionCount(0) = 3; partitionStart(0,1) = 3; partitionStart(0,2) = 5; partitionLength(0,2) = 3
            partitionCount(1) = 1; pieceCount(0) = 3; pieceLength(0,0) = 3; pieceLength(0,1) = 2; pieceLength(0,2) = 3
            """);
        Script.run("promises 16 to 18, an access that holds more than the copy range", """
            declareRecord(8) = 0; declareRecord(8) = 1; appendCopy(1,0,0,2,2) = 0; appendLoad(0,0,1,4) = 1
            partitionCount(0) = 1; partitionStart(0,0) = 1; partitionLength(0,0) = 4; pieceCount(0) = 1; isPromotable(0,0) = 0
            """);
    }

    private static void copyInsideOneRecord() {
        Script.run("both ranges of one copy in one record are two ranges", """
            declareRecord(4) = 0; appendCopy(0,0,0,2,2) = 0; partitionCount(0) = 2; partitionStart(0,1) = 2; pieceCount(0) = 1
            isPromotable(0,0) = 1; isPromotable(0,1) = 1; isLive(0,0) = 0; isLive(0,1) = 0
            appendLoad(1,0,0,2) = 1; isLive(0,0) = 1; isLive(0,1) = 1; scalarCount() = 2; cost(0) = 3; cost(1) = 0
            """);
        Script.run("a copy inside one partition", """
            declareRecord(4) = 0; appendStore(0,0,4,0) = 0; appendCopy(0,0,0,2,2) = 1; partitionCount(0) = 1; pieceCount(1) = 1
            isPromotable(0,0) = 0; isLive(0,0) = 0; cost(0) = 3; cost(1) = 0; liveBytes() = 0
            appendLoad(0,0,0,4) = 2; isLive(0,0) = 1; cost(0) = 4; cost(1) = 4; liveBytes() = 4
            """);
    }

    /** What an edit takes away must leave nothing behind. */
    private static void afterRemovals() {
        Script.run("a copy that is gone", """
            declareRecord(8) = 0; declareRecord(8) = 1; appendCopy(1,0,0,0,3) = 0; appendCopy(1,4,0,2,4) = 1
            partitionCount(0) = 3; partitionCount(1) = 2; removeInstruction(0) = 1; pieceLength(0,0) = 4
            partitionCount(0) = 1; partitionStart(0,0) = 2; partitionLength(0,0) = 4; partitionStart(0,1) = -1; partitionCount(1) = 1
            paddingBytes(0) = 4; removeInstruction(0) = 0; partitionCount(0) = 0; partitionStart(0,0) = -1; partitionLength(0,0) = -1
            isPromotable(0,0) = -1; isLive(0,0) = -1; paddingBytes(0) = 8; paddingBytes(1) = 8
            """);
        Script.run("live partitions that are gone", """
            declareRecord(8) = 0; appendLoad(0,0,0,4) = 0; appendLoad(0,0,4,4) = 1; scalarCount() = 2; liveBytes() = 8
            removeInstruction(1) = 1; scalarCount() = 1; liveBytes() = 4; isLive(0,1) = -1; isPromotable(0,1) = -1; partitionLength(0,1) = -1
            removeInstruction(0) = 0; scalarCount() = 0; liveBytes() = 0; undo() = 4; undo() = 3; scalarCount() = 2; liveBytes() = 8
            """);
        Script.run("pieces that are gone", """
            declareRecord(8) = 0; declareRecord(8) = 1; appendCopy(1,0,0,0,8) = 0; pieceLength(0,0) = 8
            appendStore(0,4,2,0) = 1; pieceLength(0,0) = 4; undo() = 3; pieceLength(0,0) = 8; pieceLength(0,1) = -1
            """);
    }

    private static void pieces() {
        Script.run("promises 22 and 23", """
            declareRecord(8) = 0; declareRecord(8) = 1; declareRecord(8) = 2; appendCopy(1,2,0,0,6) = 0
            pieceCount(0) = 1; pieceLength(0,0) = 6
            appendStore(0,1,1,0) = 1; pieceCount(0) = 3       # cut in the source before 1 and before 2
            pieceLength(0,0) = 1; pieceLength(0,1) = 1; pieceLength(0,2) = 4; pieceLength(0,3) = -1; pieceLength(0,-1) = -1
            appendStore(1,4,4,0) = 2; pieceCount(0) = 3       # cut in the destination before 4, that is before 2 too
            appendStore(1,3,1,0) = 3; pieceCount(0) = 3; appendLoad(0,1,2,2) = 4; pieceCount(0) = 3
            appendCopy(2,0,0,4,4) = 5; pieceCount(0) = 4; pieceLength(0,2) = 2; pieceLength(0,3) = 2; pieceCount(5) = 2
            appendEscape(0) = 6; pieceCount(0) = 2; pieceLength(0,0) = 2; pieceLength(0,1) = 4; pieceCount(5) = 1
            appendEscape(1) = 7; pieceCount(0) = 1; pieceLength(0,0) = 6; pieceCount(6) = -1
            """);
        Script.run("promises 22 and 23, sixteen pieces", """
            declareRecord(16) = 0; declareRecord(16) = 1; appendCopy(1,0,0,0,16) = 0
            appendStore(0,0,1,0) = 1; appendStore(0,2,1,0) = 2; appendStore(0,4,1,0) = 3; appendStore(0,6,1,0) = 4
            appendStore(0,8,1,0) = 5; appendStore(0,10,1,0) = 6; appendStore(0,12,1,0) = 7; appendStore(0,14,1,0) = 8
            partitionCount(0) = 16; partitionCount(1) = 1; pieceCount(0) = 16; pieceLength(0,15) = 1; pieceLength(0,16) = -1
            """);
    }

    private static void promotable() {
        Script.run("promise 19, lengths", """
            declareRecord(16) = 0; declareRecord(16) = 1
            appendCopy(1,0,0,0,1) = 0; appendCopy(1,1,0,1,2) = 1; appendCopy(1,3,0,3,3) = 2; appendCopy(1,6,0,6,4) = 3; appendCopy(1,10,0,10,5) = 4
            isPromotable(0,0) = 1; isPromotable(0,1) = 1; isPromotable(0,2) = 0; isPromotable(0,3) = 1; isPromotable(0,4) = 0
            isPromotable(1,0) = 1; isPromotable(1,1) = 1; isPromotable(1,2) = 0; isPromotable(1,3) = 1; isPromotable(1,4) = 0
            """);
        Script.run("promise 19, a LOAD inside", """
            declareRecord(4) = 0; appendStore(0,0,4,0) = 0; appendStore(0,0,4,1) = 1; isPromotable(0,0) = 1
            appendLoad(0,0,0,4) = 2; isPromotable(0,0) = 1; appendLoad(0,0,2,1) = 3; isPromotable(0,0) = 0
            undo() = 4; isPromotable(0,0) = 1; appendStore(0,1,2,0) = 3; isPromotable(0,0) = 0
            """);
        Script.run("promise 19, chained accesses of four bytes", """
            declareRecord(4) = 0; appendStore(0,0,2,0) = 0; appendStore(0,1,2,0) = 1; appendStore(0,2,2,0) = 2
            partitionLength(0,0) = 4; isPromotable(0,0) = 0; appendStore(0,0,4,0) = 3; isPromotable(0,0) = 0
            """);
        Script.run("promise 19, sides of pieces", """
            declareRecord(4) = 0; declareRecord(8) = 1; appendStore(0,0,4,0) = 0; appendCopy(1,2,0,0,4) = 1
            isPromotable(0,0) = 1; isPromotable(1,0) = 1; appendStore(1,4,2,0) = 2; pieceCount(1) = 2
            isPromotable(0,0) = 0; isPromotable(1,0) = 1; isPromotable(1,1) = 1    # the other side's cut spoils it
            undo() = 4; appendStore(1,0,4,0) = 2; pieceCount(1) = 2; isPromotable(1,0) = 0; isPromotable(1,1) = 1; isPromotable(0,0) = 0
            """);
        Script.run("promise 19, an escaping record on the other side", """
            declareRecord(4) = 0; declareRecord(4) = 1; appendCopy(1,0,0,0,4) = 0; appendEscape(1) = 1
            isPromotable(0,0) = 1; isLive(0,0) = 1; isPromotable(1,0) = 0; scalarCount() = 1
            """);
    }

    private static void live() {
        Script.run("promise 20, a chain of copies in any order", """
            declareRecord(4) = 0; declareRecord(4) = 1; declareRecord(4) = 2; declareRecord(4) = 3
            appendCopy(3,0,2,0,4) = 0; appendCopy(2,0,1,0,4) = 1; appendCopy(1,0,0,0,4) = 2
            isLive(0,0) = 0; isLive(1,0) = 0; isLive(2,0) = 0; isLive(3,0) = 0; liveBytes() = 0
            appendLoad(0,3,0,4) = 3; isLive(0,0) = 1; isLive(1,0) = 1; isLive(2,0) = 1; isLive(3,0) = 1; liveBytes() = 16
            undo() = 7; appendLoad(0,2,0,4) = 3; isLive(3,0) = 0; isLive(2,0) = 1; isLive(1,0) = 1; isLive(0,0) = 1
            """);
        Script.run("promise 20, the same chain in the order of the run", """
            declareRecord(4) = 0; declareRecord(4) = 1; declareRecord(4) = 2; declareRecord(4) = 3
            appendCopy(1,0,0,0,4) = 0; appendCopy(2,0,1,0,4) = 1; appendCopy(3,0,2,0,4) = 2
            appendEscape(3) = 3; isLive(0,0) = 1; isLive(1,0) = 1; isLive(2,0) = 1; isLive(3,0) = 1
            removeInstruction(1) = 3; isLive(0,0) = 0; isLive(1,0) = 0; isLive(2,0) = 1
            """);
        Script.run("promise 20, a ring of copies alone is not live", """
            declareRecord(2) = 0; declareRecord(2) = 1; appendCopy(1,0,0,0,2) = 0; appendCopy(0,0,1,0,2) = 1
            isLive(0,0) = 0; isLive(1,0) = 0; appendStore(0,0,2,0) = 2; isLive(0,0) = 0
            appendSkip(0,1) = 3; appendLoad(0,1,1,1) = 4; isLive(1,1) = 1; isLive(0,0) = 1; isLive(1,0) = 1; cost(1) = 5
            """);
        Script.run("promise 20, piece by piece", """
            declareRecord(8) = 0; declareRecord(8) = 1; appendCopy(1,0,0,0,8) = 0; appendStore(0,0,4,0) = 1; appendLoad(0,1,4,4) = 2
            isLive(0,0) = 0; isLive(0,1) = 1; isLive(1,0) = 0; isLive(1,1) = 1; liveBytes() = 8; scalarCount() = 2
            """);
    }

    private static void counts() {
        Script.run("promises 21, 24 and 25", """
            declareRecord(16) = 0; declareRecord(8) = 1; scalarCount() = 0; liveBytes() = 0
            appendLoad(0,0,0,4) = 0; scalarCount() = 1; liveBytes() = 4; paddingBytes(0) = 12
            appendStore(0,4,4,0) = 1; scalarCount() = 1; liveBytes() = 4; paddingBytes(0) = 8   # a dead one is no scalar
            appendLoad(0,0,9,2) = 2; appendLoad(0,0,10,2) = 3; scalarCount() = 1; liveBytes() = 7; paddingBytes(0) = 5
            appendEscape(1) = 4; scalarCount() = 1; liveBytes() = 15; paddingBytes(1) = 0
            appendLoad(0,1,0,4) = 5; scalarCount() = 1; liveBytes() = 15; appendLoad(0,0,15,1) = 6; scalarCount() = 2; liveBytes() = 16
            declareRecord(8) = 2; appendCopy(1,4,2,0,4) = 7; scalarCount() = 3; liveBytes() = 20; paddingBytes(2) = 4
            """);
    }
}
