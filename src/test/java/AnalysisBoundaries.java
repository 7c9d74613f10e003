import java.util.function.IntUnaryOperator;

/** The boundary cases of promises 15 to 25, and of what the document describes of the analysis. */
final class AnalysisBoundaries {
    private static final String TWO = "declareRecord(16) = 0; declareRecord(16) = 1;";
    private static final String TRAP = "appendConstant(7,MIN); appendAdd(7,7,7);";
    private static final int[] WIDTHS = {1, 2, 4};
    private static final String EXISTING = "`record`: the number of an existing record";
    private static final String NO_RECORD = "INVALID_ARGUMENT if there is no such record";
    private static final String ONE_OF_ITS = "`partition`: the number of one of its partitions";
    private static final String NO_PARTITION = "INVALID_ARGUMENT if there is no such partition";

    private AnalysisBoundaries() {
    }

    static void hold() {
        escapingRecords();
        hardPartitions();
        softPartitions();
        padding();
        cuts();
        promotion();
        liveness();
        escapes();
        partitionCount();
        partitionStart();
        partitionLength();
        isPromotable();
        isLive();
        paddingBytes();
        pieceCount();
        pieceLength();
        totals();
    }

    // ---- texts of calls

    /** A store to byte 0 of each of the records, so that each has a partition 0. */
    private static String used(int count) {
        StringBuilder text = new StringBuilder(BuildingBoundaries.records(count));
        for (int record = 0; record < count; record++) {
            text.append("appendStore(").append(record).append(",0,1,0);");
        }
        return text.toString();
    }

    /** The question with the record's number in place of the ?, with no record up to four, and with one taken back. */
    private static void existingRecords(String question, int due) {
        for (int count = 0; count <= 4; count++) {
            StringBuilder text = new StringBuilder(used(count));
            for (int record = -1; record <= 5; record++) {
                text.append(question.replace("?", "" + record)).append(record >= 0 && record < count ? " = " + due + ";" : " = -1;");
            }
            Sentence.also(text.toString());
        }
    }

    private static void noRecords(String question) {
        StringBuilder text = new StringBuilder();
        for (String record : "-1 1 4 -4 256 65536 MIN MAX".split(" ")) {
            text.append(question.replace("?", record)).append(" = -1;");
        }
        Sentence.also(question.replace("?", "0") + " = -1;" + text);
        Sentence.also(used(1) + text);
        Sentence.also("declareRecord(8) = 0; appendEscape(0) = 0; undo() = 1; undo() = 0;" + question.replace("?", "0") + " = -1");
    }

    /** The question with the partition's number in place of the ?, up to the last and the first that is not there. */
    private static void partitionsOfOneByte(String question, IntUnaryOperator due) {
        for (int count = 0; count <= 16; count++) {
            StringBuilder text = new StringBuilder("declareRecord(16) = 0;" + singleBytes(count) + question.replace("?", "-1") + " = -1;");
            for (int number = 0; number <= count; number++) {
                text.append(question.replace("?", "" + number)).append(" = ").append(number < count ? due.applyAsInt(number) : -1).append(';');
            }
            Sentence.also(text.toString());
        }
    }

    /** The same with numbers that are none, in record 0 with 0, 1, 2 and 16 partitions. */
    private static void noPartitions(String question) {
        String[] stores = {"", "appendStore(0,3,4,0);", "appendStore(0,3,4,0); appendStore(0,7,4,0);", "appendEscape(0);", singleBytes(16)};
        int[] counts = {0, 1, 2, 1, 16};
        for (int at = 0; at < stores.length; at++) {
            StringBuilder text = new StringBuilder("declareRecord(16) = 0;" + stores[at]);
            for (String number : ("-1 -2 -16 256 65536 MIN MAX " + counts[at] + " " + (counts[at] + 1) + " 17").split(" ")) {
                text.append(question.replace("?", number)).append(" = -1;");
            }
            Sentence.also(text + "partitionCount(0) = " + counts[at]);
        }
    }

    private static String singleBytes(int count) {
        StringBuilder text = new StringBuilder();
        for (int offset = 0; offset < count; offset++) {
            text.append("appendStore(0,").append(offset).append(",1,0);");
        }
        return text.toString();
    }

    private static String copy(int to, int toOffset, int from, int fromOffset, int length) {
        return "appendCopy(" + to + "," + toOffset + "," + from + "," + fromOffset + "," + length + ");";
    }

    /** A program of 24 instructions: OUTPUTs, but for the two given ones at their places. */
    private static String among24(int place, String call, int otherPlace, String otherCall) {
        StringBuilder text = new StringBuilder();
        for (int position = 0; position < 24; position++) {
            text.append(position == place ? call : position == otherPlace ? otherCall : "appendOutput(0);");
        }
        return text.toString();
    }

    // ---- the description

    private static void escapingRecords() {
        Sentence.description("A record escapes if the program contains an ESCAPE instruction for it, whether or not the instruction is executed.");
        for (int place = 0; place < 24; place++) {
            Sentence.also(BuildingBoundaries.records(4) + among24(place, "appendEscape(3);", -1, "")
                    + "escapes(0) = 0; escapes(2) = 0; escapes(3) = 1; removeInstruction(" + place + ") = 23; escapes(3) = 0; undo() = 7; escapes(3) = 1");
        }
        Sentence.also("declareRecord(1) = 0; appendSkip(0,1) = 0; appendEscape(0) = 1; escapes(0) = 1; cost(0) = 0");
        Sentence.also("declareRecord(1) = 0;" + TRAP + "appendEscape(0) = 2; escapes(0) = 1; cost(0) = 0");
        Sentence.also("declareRecord(1) = 0; appendEscape(0) = 0; appendEscape(0) = 1; removeInstruction(0) = 1; escapes(0) = 1; removeInstruction(0) = 0; escapes(0) = 0");
        Sentence.description("A record that escapes has exactly one partition, which consists of all its bytes.");
        for (int size = 1; size <= 16; size++) {
            Sentence.also("declareRecord(" + size + ") = 0; appendEscape(0) = 0; partitionCount(0) = 1; partitionStart(0,0) = 0; partitionLength(0,0) = " + size
                    + "; partitionLength(0,1) = -1; paddingBytes(0) = 0; liveBytes() = " + size);
        }
        Sentence.also(TWO + "appendStore(0,2,4,0) = 0; appendLoad(0,0,9,1) = 1; appendCopy(1,0,0,4,8) = 2; partitionCount(0) = 4;"
                + "appendEscape(0) = 3; partitionCount(0) = 1; partitionStart(0,0) = 0; partitionLength(0,0) = 16; pieceCount(2) = 1");
    }

    private static void hardPartitions() {
        Sentence.description("the partitions are formed from all instructions of the program, whether or not they are executed",
                TWO + "appendSkip(0,3) = 0; appendStore(0,0,2,0) = 1; appendLoad(0,0,4,2) = 2; appendCopy(1,0,0,8,3) = 3; appendOutput(0) = 4;"
                + "partitionCount(0) = 3; partitionStart(0,2) = 8; partitionCount(1) = 1; partitionLength(1,0) = 3; cost(0) = 0");
        Sentence.also(TWO + TRAP + "appendStore(0,0,2,0) = 2; appendLoad(0,0,4,2) = 3; appendCopy(1,0,0,8,3) = 4; partitionCount(0) = 3; partitionCount(1) = 1; cost(0) = 0");
        Sentence.description("Two accesses that have a byte in common belong together");
        for (int width : WIDTHS) {
            for (int otherWidth : WIDTHS) {
                pairsOfAccesses(width, otherWidth);
            }
        }
        Sentence.description("and so do accesses that are connected by a chain of such accesses", "declareRecord(16) = 0;"
                + "appendStore(0,0,4,0) = 0; appendLoad(0,0,12,4) = 1; appendStore(0,6,4,0) = 2; partitionCount(0) = 3;"
                + "appendLoad(0,0,3,4) = 3; partitionCount(0) = 2; partitionLength(0,0) = 10; appendStore(0,9,4,0) = 4;"
                + "partitionCount(0) = 1; partitionStart(0,0) = 0; partitionLength(0,0) = 16; removeInstruction(2) = 4;"
                + "partitionCount(0) = 2; partitionLength(0,0) = 7; partitionStart(0,1) = 9; partitionLength(0,1) = 7");
        Sentence.also("declareRecord(16) = 0; appendStore(0,0,2,0) = 0; appendStore(0,2,2,0) = 1; appendStore(0,4,2,0) = 2; partitionCount(0) = 3;"
                + "appendStore(0,0,1,0) = 3; appendStore(0,3,1,0) = 4; partitionCount(0) = 3; appendStore(0,1,4,0) = 5; partitionCount(0) = 1; partitionLength(0,0) = 6");
        Sentence.description("(It is a range of consecutive bytes.)", "declareRecord(16) = 0;"
                + "appendStore(0,0,1,0) = 0; appendStore(0,15,1,0) = 1; partitionCount(0) = 2; partitionLength(0,0) = 1; partitionStart(0,1) = 15; partitionLength(0,1) = 1;"
                + "appendStore(0,5,4,0) = 2; appendStore(0,6,1,0) = 3; partitionCount(0) = 3; partitionStart(0,1) = 5; partitionLength(0,1) = 4; paddingBytes(0) = 10");
    }

    private static void pairsOfAccesses(int width, int otherWidth) {
        for (int start = 0; start + width <= 16; start++) {
            for (int other = 0; other + otherWidth <= 16; other++) {
                boolean apart = start + width <= other || other + otherWidth <= start;
                int first = Math.min(start, other);
                int end = Math.max(start + width, other + otherWidth);
                int firstLength = !apart ? end - first : start < other ? width : otherWidth;
                Sentence.also("declareRecord(16) = 0; appendStore(0," + start + "," + width + ",0) = 0; appendLoad(0,0," + other + "," + otherWidth + ") = 1;"
                        + "partitionCount(0) = " + (apart ? 2 : 1) + "; partitionStart(0,0) = " + first + "; partitionLength(0,0) = " + firstLength
                        + "; partitionStart(0,1) = " + (apart ? Math.max(start, other) : -1)
                        + "; paddingBytes(0) = " + (apart ? 16 - width - otherWidth : 16 - end + first));
            }
        }
    }

    private static void softPartitions() {
        Sentence.description("The copy ranges are the destination range and the source range of each COPY instruction that concerns the record.",
                TWO + "appendCopy(1,9,0,2,5) = 0; partitionCount(0) = 1; partitionStart(0,0) = 2; partitionLength(0,0) = 5;"
                + "partitionCount(1) = 1; partitionStart(1,0) = 9; partitionLength(1,0) = 5");
        Sentence.also("declareRecord(16) = 0; appendCopy(0,0,0,8,8) = 0; partitionCount(0) = 2; partitionStart(0,1) = 8; partitionLength(0,0) = 8; partitionLength(0,1) = 8");
        Sentence.also("declareRecord(2) = 0; appendCopy(0,1,0,0,1) = 0; partitionCount(0) = 2; partitionStart(0,1) = 1; pieceCount(0) = 1");
        Sentence.description("A byte that is in at least one copy range, but in no hard partition, is a soft byte.",
                TWO + "appendCopy(1,0,0,4,4) = 0; appendStore(0,4,4,0) = 1; partitionCount(0) = 1; appendStore(0,4,1,0) = 2; partitionCount(0) = 1;"
                + "removeInstruction(1) = 2; partitionCount(0) = 2; partitionLength(0,0) = 1; partitionStart(0,1) = 5; partitionLength(0,1) = 3;"
                + "appendStore(0,7,2,0) = 2; partitionCount(0) = 3; partitionLength(0,1) = 2; partitionStart(0,2) = 7; partitionLength(0,2) = 2; paddingBytes(0) = 11");
        Sentence.description("Two adjacent soft bytes belong to the same soft partition if they are in exactly the same copy ranges");
        for (int length = 1; length <= 16; length++) {
            Sentence.also(TWO + "appendCopy(1,0,0,0," + length + ") = 0; appendCopy(0,0,1,0," + length + ") = 1; appendCopy(1,0,0,0," + length + ") = 2;"
                    + "partitionCount(0) = 1; partitionLength(0,0) = " + length + "; partitionCount(1) = 1; partitionLength(1,0) = " + length);
        }
        Sentence.description("otherwise a soft partition ends between them");
        for (int place = 0; place < 24; place++) {
            for (int other = place + 1; other < 24; other++) {
                rangesSideBySide(place, other);
            }
        }
        overlappingRanges();
        nestedRanges();
    }

    /** Ranges of two copies at any two places of a full program differ, whether source or destination. */
    private static void rangesSideBySide(int place, int other) {
        Sentence.also(TWO + among24(place, copy(1, 0, 0, 0, 2), other, copy(1, 2, 0, 2, 2)) + "partitionCount(0) = 2; partitionCount(1) = 2; partitionStart(1,1) = 2");
        Sentence.also(TWO + among24(place, copy(1, 0, 0, 0, 2), other, copy(0, 2, 1, 2, 2)) + "partitionCount(0) = 2; partitionCount(1) = 2; partitionStart(0,1) = 2");
    }

    private static void overlappingRanges() {
        Sentence.also(TWO + "appendCopy(1,0,0,0,4) = 0; appendCopy(1,8,0,3,4) = 1; partitionCount(0) = 3; partitionLength(0,0) = 3;"
                + "partitionStart(0,1) = 3; partitionLength(0,1) = 1; partitionStart(0,2) = 4; partitionLength(0,2) = 3; partitionCount(1) = 2");
        Sentence.also(TWO + "appendCopy(1,0,0,0,8) = 0; appendStore(0,3,1,0) = 1; partitionCount(0) = 3; partitionLength(0,0) = 3; partitionStart(0,2) = 4; partitionLength(0,2) = 4");
    }

    /** Sixteen ranges from byte 0 on, each longer than the one before: every byte is a partition of its own. */
    private static void nestedRanges() {
        StringBuilder text = new StringBuilder(TWO);
        for (int length = 1; length <= 16; length++) {
            text.append(copy(1, 0, 0, 0, length)).append("partitionCount(0) = ").append(length).append(';');
        }
        Sentence.also(text + "partitionCount(1) = 16; partitionStart(0,15) = 15; partitionLength(0,15) = 1; pieceCount(15) = 16; pieceCount(0) = 1");
    }

    private static void padding() {
        Sentence.description("All other bytes are padding. They belong to no partition.", "declareRecord(1) = 0; paddingBytes(0) = 1; partitionCount(0) = 0;"
                + "appendConstant(0,1) = 0; appendOutput(0) = 1; paddingBytes(0) = 1; appendStore(0,0,1,0) = 2; paddingBytes(0) = 0; partitionCount(0) = 1");
        Sentence.also(TWO + "appendStore(0,1,1,0) = 0; appendStore(0,14,1,0) = 1; appendCopy(0,4,1,0,2) = 2; paddingBytes(0) = 12; paddingBytes(1) = 14;"
                + "partitionCount(0) = 3; partitionStart(0,0) = 1; partitionStart(0,1) = 4; partitionStart(0,2) = 14");
        Sentence.description("The partitions of a record are numbered from 0 in ascending order of their offsets.", TWO
                + "appendStore(0,14,2,0) = 0; appendCopy(1,0,0,10,4) = 1; appendLoad(0,0,0,4) = 2; appendCopy(0,5,1,0,1) = 3; partitionCount(0) = 4;"
                + "partitionStart(0,0) = 0; partitionStart(0,1) = 5; partitionStart(0,2) = 10; partitionStart(0,3) = 14; partitionStart(0,4) = -1; partitionStart(0,-1) = -1;"
                + "partitionLength(0,0) = 4; partitionLength(0,1) = 1; partitionLength(0,2) = 4; partitionLength(0,3) = 2; paddingBytes(0) = 5");
    }

    private static void cuts() {
        Sentence.description("A cut is made between two consecutive copied bytes if a partition begins between them in the destination record or in the source record.");
        for (int start = 0; start < 16; start++) {
            oneCut(start);
        }
        Sentence.also("declareRecord(16) = 0; appendCopy(0,8,0,0,8) = 0; pieceCount(0) = 1; appendStore(0,2,2,0) = 1; pieceCount(0) = 3; appendStore(0,12,2,0) = 2;"
                + "pieceCount(0) = 4; pieceLength(0,0) = 2; pieceLength(0,1) = 2; pieceLength(0,2) = 2; pieceLength(0,3) = 2");
        Sentence.description("The pieces are numbered from 0 in ascending order of offsets.", TWO + "appendCopy(1,0,0,1,15) = 0; appendStore(0,2,1,0) = 1; appendStore(1,3,4,0) = 2;"
                + "pieceCount(0) = 5; pieceLength(0,0) = 1; pieceLength(0,1) = 1; pieceLength(0,2) = 1; pieceLength(0,3) = 4; pieceLength(0,4) = 8");
        Sentence.description("So each piece lies in one partition of the destination and in one partition of the source.", TWO
                + "appendCopy(1,4,0,4,8) = 0; appendEscape(0) = 1; appendEscape(1) = 2; pieceCount(0) = 1; pieceLength(0,0) = 8; removeInstruction(2) = 2;"
                + "appendLoad(0,1,2,4) = 2; pieceCount(0) = 2; pieceLength(0,0) = 2; appendLoad(0,1,10,4) = 3; pieceCount(0) = 3; pieceLength(0,1) = 4; pieceLength(0,2) = 2");
    }

    /** A store of one byte; the COPY concerns bytes 4 to 11 of both records, so a start at 4 or 12 cuts nothing. */
    private static void oneCut(int start) {
        int before = start > 4 && start < 12 ? 1 : 0;
        int behind = start + 1 > 4 && start + 1 < 12 ? 1 : 0;
        String pieces = "pieceCount(0) = " + (1 + before + behind) + "; pieceLength(0,0) = "
                + (before == 1 ? start - 4 : behind == 1 ? 1 : 8) + "; undo() = 3; pieceCount(0) = 1; pieceLength(0,0) = 8; pieceLength(0,1) = -1";
        Sentence.also(TWO + "appendCopy(1,4,0,4,8) = 0; appendStore(0," + start + ",1,0) = 1;" + pieces);
        Sentence.also(TWO + "appendCopy(1,4,0,4,8) = 0; appendStore(1," + start + ",1,0) = 1;" + pieces);
    }

    private static void promotion() {
        Sentence.description("A partition is promotable if its record does not escape, its length is 1, 2 or 4");
        for (int length = 1; length <= 16; length++) {
            int due = length == 1 || length == 2 || length == 4 ? 1 : 0;
            Sentence.also(TWO + "appendCopy(1,0,0,0," + length + ") = 0; isPromotable(0,0) = " + due + "; isPromotable(1,0) = " + due);
            Sentence.also("declareRecord(" + length + ") = 0; appendEscape(0) = 0; isPromotable(0,0) = 0");
        }
        Sentence.description("and each access and each side of a piece that has a byte in common with it consists of exactly its bytes");
        for (int width : WIDTHS) {
            Sentence.also("declareRecord(16) = 0; appendStore(0,4," + width + ",0) = 0; appendLoad(0,0,4," + width + ") = 1; isPromotable(0,0) = 1;"
                    + "appendStore(0," + (4 + width) + ",1,0) = 2; appendStore(0,3,1,0) = 3; isPromotable(0,1) = 1");
        }
        Sentence.also("declareRecord(16) = 0; appendStore(0,4,4,0) = 0; appendLoad(0,0,4,1) = 1; isPromotable(0,0) = 0; undo() = 2; isPromotable(0,0) = 1;"
                + "appendLoad(0,0,7,1) = 1; isPromotable(0,0) = 0; undo() = 2; appendStore(0,6,2,0) = 1; isPromotable(0,0) = 0; appendStore(0,0,4,0) = 2; isPromotable(0,0) = 1");
        Sentence.also(TWO + "appendStore(0,0,4,0) = 0; appendCopy(1,0,0,0,4) = 1; isPromotable(0,0) = 1; appendCopy(1,8,0,0,8) = 2; isPromotable(0,0) = 1; isPromotable(1,0) = 1;"
                + "isPromotable(1,1) = 0; appendCopy(1,0,0,3,1) = 3; isPromotable(0,0) = 0");
        Sentence.also("declareRecord(4) = 0; appendStore(0,0,1,0) = 0; appendStore(0,0,2,0) = 1; isPromotable(0,0) = 0; removeInstruction(0) = 1; isPromotable(0,0) = 1");
        for (int start = 0; start < 16; start++) {
            for (int length = 1; start + length <= 16; length++) {
                copyBesideStore(start, length);
            }
        }
    }

    /** A STORE to bytes 4 to 7: a COPY to or from the same record spoils its partition just if it has a part of it alone. */
    private static void copyBesideStore(int start, int length) {
        int end = start + length;
        boolean apart = end <= 4 || start >= 8;
        boolean whole = start <= 4 && end >= 8;
        int number = start < 4 ? 1 : 0;
        String due = "partitionStart(0," + number + ") = 4; partitionLength(0," + number + ") = 4; isPromotable(0," + number + ") = " + (apart || whole ? 1 : 0);
        Sentence.also(TWO + "appendStore(0,4,4,0) = 0;" + copy(0, start, 1, 0, length) + due);
        Sentence.also(TWO + "appendStore(0,4,4,0) = 0;" + copy(1, 0, 0, start, length) + due);
    }

    private static void liveness() {
        Sentence.description("A partition is live if its record escapes, or if a LOAD instruction reads a byte of it");
        for (int place = 0; place < 24; place++) {
            Sentence.also("declareRecord(16) = 0;" + among24(place, "appendLoad(0,0,15,1);", -1, "") + "isLive(0,0) = 1; liveBytes() = 1");
            Sentence.also("declareRecord(16) = 0;" + among24(place, "appendEscape(0);", -1, "") + "isLive(0,0) = 1; liveBytes() = 16");
        }
        Sentence.also("declareRecord(16) = 0; appendStore(0,0,4,0) = 0; appendStore(0,3,4,0) = 1; isLive(0,0) = 0; appendLoad(0,0,7,1) = 2; isLive(0,0) = 0; isLive(0,1) = 1;"
                + "undo() = 3; appendLoad(0,0,6,1) = 2; isLive(0,0) = 1; liveBytes() = 7");
        Sentence.description("or if a piece copies from it to a live partition");
        chainOfCopies(true);
        chainOfCopies(false);
        Sentence.description("No other partition is live.", TWO + "appendStore(0,0,4,0) = 0; appendCopy(1,0,0,0,4) = 1; appendCopy(0,0,1,0,4) = 2; isLive(0,0) = 0; isLive(1,0) = 0;"
                + "appendLoad(0,0,4,4) = 3; appendLoad(0,1,4,4) = 4; isLive(0,0) = 0; isLive(1,0) = 0; liveBytes() = 8");
        Sentence.also(TWO + "appendLoad(0,0,0,4) = 0; appendCopy(1,0,0,0,4) = 1; isLive(0,0) = 1; isLive(1,0) = 0; appendEscape(0) = 2; isLive(0,0) = 1; isLive(1,0) = 0");
        Sentence.description("(All instructions count, whether or not they are executed.)", TWO
                + "appendSkip(0,2) = 0; appendCopy(1,0,0,0,4) = 1; appendLoad(0,1,0,4) = 2; isLive(0,0) = 1; isLive(1,0) = 1; scalarCount() = 2; cost(0) = 0");
        Sentence.also(TWO + TRAP + "appendLoad(0,1,0,4) = 2; appendCopy(1,0,0,0,4) = 3; isLive(0,0) = 1; isLive(1,0) = 1; scalarCount() = 2; cost(0) = 0");
    }

    /** A full program: 23 copies of a byte to the next byte, over two records, and a LOAD of the last of the 24 bytes. */
    private static void chainOfCopies(boolean forward) {
        StringBuilder text = new StringBuilder(TWO);
        for (int place = 0; place < 23; place++) {
            int from = forward ? place : 22 - place;
            text.append(copy((from + 1) / 16, (from + 1) % 16, from / 16, from % 16, 1));
        }
        Sentence.also(text + "liveBytes() = 0; isLive(0,0) = 0; appendLoad(0,1,7,1) = 23; liveBytes() = 24; scalarCount() = 24; isLive(0,0) = 1; isLive(0,15) = 1; isLive(1,7) = 1");
        Sentence.also(text + "appendLoad(0,0,0,1) = 23; liveBytes() = 1; isLive(0,0) = 1; isLive(0,1) = 0");
    }

    // ---- promises 15 to 25

    private static void escapes() {
        Sentence.promise(15, EXISTING);
        existingRecords("escapes(?)", 0);
        Sentence.promise(15, "Returns 1 if the record escapes, otherwise 0", BuildingBoundaries.records(4) + "escapes(0) = 0; escapes(3) = 0; appendEscape(3) = 0; escapes(3) = 1; escapes(0) = 0;"
                + "appendEscape(0) = 1; escapes(0) = 1; escapes(1) = 0; escapes(2) = 0; undo() = 5; escapes(0) = 0; undo() = 4; escapes(3) = 0");
        Sentence.promise(15, NO_RECORD);
        noRecords("escapes(?)");
    }

    private static void partitionCount() {
        Sentence.promise(16, EXISTING);
        existingRecords("partitionCount(?)", 1);
        Sentence.promise(16, "Returns the number of its partitions");
        for (int count = 0; count <= 16; count++) {
            Sentence.also("declareRecord(16) = 0;" + singleBytes(count) + "partitionCount(0) = " + count);
        }
        Sentence.also("declareRecord(1) = 0; partitionCount(0) = 0; appendStore(0,0,1,0) = 0; partitionCount(0) = 1; appendEscape(0) = 1; partitionCount(0) = 1");
        Sentence.promise(16, NO_RECORD);
        noRecords("partitionCount(?)");
    }

    private static void partitionStart() {
        Sentence.promise(17, EXISTING);
        existingRecords("partitionStart(?,0)", 0);
        Sentence.promise(17, ONE_OF_ITS);
        partitionsOfOneByte("partitionStart(0,?)", number -> number);
        Sentence.promise(17, "Returns the offset of the first byte of the partition");
        for (int offset = 0; offset < 16; offset++) {
            Sentence.also("declareRecord(16) = 0; appendStore(0," + offset + ",1,0) = 0; partitionStart(0,0) = " + offset);
            Sentence.also("declareRecord(16) = 0;" + singleBytes(16) + "partitionStart(0," + offset + ") = " + offset);
        }
        Sentence.promise(17, NO_PARTITION);
        noRecords("partitionStart(?,0)");
        noPartitions("partitionStart(0,?)");
    }

    private static void partitionLength() {
        Sentence.promise(18, EXISTING);
        existingRecords("partitionLength(?,0)", 1);
        Sentence.promise(18, ONE_OF_ITS);
        partitionsOfOneByte("partitionLength(0,?)", number -> 1);
        Sentence.promise(18, "Returns the number of bytes of the partition");
        for (int length = 1; length <= 16; length++) {
            Sentence.also(TWO + "appendCopy(1," + (16 - length) + ",0,0," + length + ") = 0; partitionLength(0,0) = " + length + "; partitionLength(1,0) = " + length);
        }
        for (int width : WIDTHS) {
            Sentence.also("declareRecord(16) = 0; appendStore(0," + (16 - width) + "," + width + ",0) = 0; partitionLength(0,0) = " + width);
        }
        Sentence.promise(18, NO_PARTITION);
        noRecords("partitionLength(?,0)");
        noPartitions("partitionLength(0,?)");
    }

    private static void isPromotable() {
        Sentence.promise(19, EXISTING);
        existingRecords("isPromotable(?,0)", 1);
        Sentence.promise(19, ONE_OF_ITS);
        partitionsOfOneByte("isPromotable(0,?)", number -> 1);
        Sentence.promise(19, "Returns 1 if the partition is promotable, otherwise 0", "declareRecord(16) = 0; appendStore(0,0,4,0) = 0; isPromotable(0,0) = 1;"
                + "appendStore(0,3,2,0) = 1; isPromotable(0,0) = 0; appendStore(0,5,2,0) = 2; isPromotable(0,0) = 0; isPromotable(0,1) = 1; appendStore(0,15,1,0) = 3; isPromotable(0,2) = 1;"
                + "appendEscape(0) = 4; isPromotable(0,0) = 0; undo() = 5; isPromotable(0,2) = 1");
        Sentence.promise(19, NO_PARTITION);
        noRecords("isPromotable(?,0)");
        noPartitions("isPromotable(0,?)");
    }

    private static void isLive() {
        Sentence.promise(20, EXISTING);
        existingRecords("isLive(?,0)", 0);
        Sentence.promise(20, ONE_OF_ITS);
        partitionsOfOneByte("isLive(0,?)", number -> 0);
        Sentence.promise(20, "Returns 1 if the partition is live, otherwise 0", "declareRecord(16) = 0; appendStore(0,0,4,0) = 0; isLive(0,0) = 0; appendLoad(0,0,15,1) = 1; isLive(0,0) = 0; isLive(0,1) = 1;"
                + "appendLoad(0,0,0,4) = 2; isLive(0,0) = 1; undo() = 3; isLive(0,0) = 0; appendEscape(0) = 2; isLive(0,0) = 1");
        Sentence.promise(20, NO_PARTITION);
        noRecords("isLive(?,0)");
        noPartitions("isLive(0,?)");
    }

    private static void paddingBytes() {
        Sentence.promise(21, EXISTING);
        existingRecords("paddingBytes(?)", 7);
        Sentence.promise(21, "Returns the number of its bytes that are padding");
        for (int length = 1; length <= 16; length++) {
            Sentence.also(TWO + "paddingBytes(0) = 16; appendCopy(1,0,0," + (16 - length) + "," + length + ") = 0; paddingBytes(0) = " + (16 - length) + "; paddingBytes(1) = " + (16 - length));
            Sentence.also("declareRecord(" + length + ") = 0; paddingBytes(0) = " + length + "; appendEscape(0) = 0; paddingBytes(0) = 0");
        }
        Sentence.also("declareRecord(1) = 0; paddingBytes(0) = 1; declareRecord(16) = 1; paddingBytes(1) = 16; undo() = 1; paddingBytes(1) = -1; declareRecord(2) = 1; paddingBytes(1) = 2");
        Sentence.promise(21, NO_RECORD);
        noRecords("paddingBytes(?)");
    }

    private static void pieceCount() {
        Sentence.promise(22, "`instruction`: the number of an existing COPY instruction");
        copiesAmongOthers("pieceCount(?)", 1);
        Sentence.promise(22, "Returns the number of its pieces");
        for (int pieces = 1; pieces <= 16; pieces++) {
            Sentence.also(TWO + "appendCopy(1,0,0,0,16) = 0;" + singleBytes(pieces - 1) + "pieceCount(0) = " + pieces);
        }
        Sentence.also("declareRecord(1) = 0; declareRecord(1) = 1; appendCopy(1,0,0,0,1) = 0; appendStore(0,0,1,0) = 1; appendLoad(0,1,0,1) = 2; pieceCount(0) = 1");
        Sentence.promise(22, "INVALID_ARGUMENT if there is no such COPY instruction");
        noCopies("pieceCount(?)");
    }

    private static void pieceLength() {
        Sentence.promise(23, "`instruction`: the number of an existing COPY instruction");
        copiesAmongOthers("pieceLength(?,0)", 8);
        Sentence.promise(23, "`piece`: the number of one of its pieces");
        for (int pieces = 1; pieces <= 16; pieces++) {
            Sentence.also(TWO + "appendCopy(1,0,0,0,16) = 0;" + singleBytes(pieces - 1) + "pieceLength(0," + (pieces - 1) + ") = " + (17 - pieces)
                    + "; pieceLength(0," + pieces + ") = -1; pieceLength(0,-1) = -1");
        }
        Sentence.promise(23, "Returns the number of bytes of the piece");
        for (int length = 1; length <= 16; length++) {
            Sentence.also(TWO + "appendCopy(1," + (16 - length) + ",0,0," + length + ") = 0; pieceLength(0,0) = " + length);
        }
        Sentence.promise(23, "INVALID_ARGUMENT if there is no such piece");
        noCopies("pieceLength(?,0)");
        Sentence.also(TWO + "appendCopy(1,0,0,0,16) = 0; appendStore(0,4,4,0) = 1; pieceLength(0,2) = 8; pieceLength(0,3) = -1; pieceLength(0,4) = -1; pieceLength(0,16) = -1;"
                + "pieceLength(0,-1) = -1; pieceLength(0,256) = -1; pieceLength(0,65536) = -1; pieceLength(0,MIN) = -1; pieceLength(0,MAX) = -1");
    }

    /** The question with each instruction's number in place of the ?, in a full program with one COPY. */
    private static void copiesAmongOthers(String question, int due) {
        for (int place = 0; place < 24; place++) {
            StringBuilder text = new StringBuilder(BuildingBoundaries.records(2) + among24(place, copy(1, 0, 0, 0, 8), -1, ""));
            for (int position = -1; position <= 25; position++) {
                text.append(question.replace("?", "" + position)).append(" = ").append(position == place ? due : -1).append(';');
            }
            Sentence.also(text.toString());
        }
    }

    /** One instruction of each other kind, the numbers outside of the program, and a COPY that is gone. */
    private static void noCopies(String question) {
        StringBuilder text = new StringBuilder(BuildingBoundaries.records(2) + "appendStore(0,0,1,0); appendLoad(0,0,0,1); appendEscape(0); appendConstant(0,0);"
                + "appendAdd(0,0,0); appendSkip(0,1); appendOutput(0);");
        for (String number : "0 1 2 3 4 5 6 7 8 23 24 25 -1 256 65536 MIN MAX".split(" ")) {
            text.append(question.replace("?", number)).append(" = -1;");
        }
        Sentence.also(text.toString());
        String first = question.replace("?", "0") + " = -1;";
        Sentence.also(first + BuildingBoundaries.records(2) + first + "appendCopy(1,0,0,0,8); undo() = 2;" + first + "appendCopy(1,0,0,0,8) = 0; removeInstruction(0) = 0;" + first);
    }

    private static void totals() {
        Sentence.promise(24, "Returns the number of partitions of all records that are live and promotable.", "scalarCount() = 0; declareRecord(1) = 0; scalarCount() = 0;"
                + "appendStore(0,0,1,0) = 0; scalarCount() = 0; appendLoad(0,0,0,1) = 1; scalarCount() = 1; appendEscape(0) = 2; scalarCount() = 0");
        Sentence.also("declareRecord(16) = 0; appendLoad(0,0,0,4) = 0; appendLoad(0,0,4,2) = 1; appendLoad(0,0,6,1) = 2; scalarCount() = 3; appendLoad(0,0,3,2) = 3; scalarCount() = 1");
        Sentence.also(everyByteAScalar() + "scalarCount() = 64; instructionCount() = 22; partitionCount(3) = 16; cost(1) = 0");
        Sentence.promise(25, "Returns the total number of bytes of all live partitions.", "liveBytes() = 0; declareRecord(16) = 0; liveBytes() = 0; appendStore(0,0,4,0) = 0; liveBytes() = 0;"
                + "appendLoad(0,0,3,1) = 1; liveBytes() = 4; appendLoad(0,0,15,1) = 2; liveBytes() = 5; appendEscape(0) = 3; liveBytes() = 16; declareRecord(16) = 1; liveBytes() = 16;"
                + "declareRecord(16) = 2; declareRecord(16) = 3; appendEscape(1) = 4; appendEscape(2) = 5; liveBytes() = 48; appendEscape(3) = 6; liveBytes() = 64; undo() = 7; liveBytes() = 48");
        Sentence.also(everyByteAScalar() + "liveBytes() = 64; paddingBytes(0) = 0; paddingBytes(3) = 0");
    }

    /**
     * Copies of every second byte make each byte of the four records a partition of its own. A byte of record 1
     * goes to the byte before it in record 0, and that one to the same byte of record 1: all end at a byte 0, which is loaded.
     */
    private static String everyByteAScalar() {
        StringBuilder text = new StringBuilder(TWO + "declareRecord(16) = 2; declareRecord(16) = 3;");
        for (int offset = 0; offset < 16; offset += 2) {
            text.append(copy(1, offset, 0, offset, 1)).append(copy(3, offset, 2, offset, 1));
        }
        return text + "appendCopy(1,0,0,0,16) = 16; appendCopy(0,0,1,1,15) = 17; appendCopy(0,0,2,0,16) = 18; appendCopy(0,0,3,0,16) = 19; appendLoad(0,0,0,1) = 20; appendLoad(0,1,0,1) = 21;";
    }
}
