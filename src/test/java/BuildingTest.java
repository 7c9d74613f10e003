/** Promises 1 to 14: a new object, the edits, undo, and the two counts. */
public final class BuildingTest {
    private static final String MIN = "-2147483648";
    private static final String MAX = "2147483647";

    public static void main(String[] args) {
        newObject();
        declareRecord();
        accesses();
        appendCopy();
        appendEscape();
        registersOnly();
        appendSkip();
        limitOfInstructions();
        removeInstruction();
        undo();
        undoOfRemovals();
        undoDepth();
        Script.end("BuildingTest");
    }

    private static void newObject() {
        Script.run("promise 1", """
            recordCount() = 0; instructionCount() = 0; undo() = -2; removeInstruction(0) = -1
            escapes(0) = -1; partitionCount(0) = -1; partitionStart(0,0) = -1; partitionLength(0,0) = -1
            isPromotable(0,0) = -1; isLive(0,0) = -1; paddingBytes(0) = -1
            pieceCount(0) = -1; pieceLength(0,0) = -1; scalarCount() = 0; liveBytes() = 0
            trapPosition() = -9; outputCount(0) = 0; outputCount(1) = 0; outputAt(0,0) = 0; outputAt(1,0) = 0
            checksum(0) = 0; checksum(1) = 0; cost(0) = 0; cost(1) = 0
            """);
        Script.run("promise 1, objects apart", "declareRecord(3) = 0; appendOutput(0) = 0");
        Script.run("promise 1, objects apart", "recordCount() = 0; instructionCount() = 0; undo() = -2");
        Script.same("INVALID_ARGUMENT", AggregateSplitter.INVALID_ARGUMENT, -1);
        Script.same("INVALID_STATE", AggregateSplitter.INVALID_STATE, -2);
        Script.same("LIMIT_REACHED", AggregateSplitter.LIMIT_REACHED, -3);
        Script.same("NONE", AggregateSplitter.NONE, -9);
    }

    private static void declareRecord() {
        Script.run("promise 2", "declareRecord(0) = -1; declareRecord(17) = -1; declareRecord(-1) = -1;"
                + "declareRecord(" + MIN + ") = -1; declareRecord(" + MAX + ") = -1; recordCount() = 0; undo() = -2;"
                + "declareRecord(1) = 0; declareRecord(16) = 1; declareRecord(2) = 2; declareRecord(15) = 3;"
                + "declareRecord(1) = -3; declareRecord(16) = -3; recordCount() = 4;"
                + "declareRecord(0) = -1; declareRecord(17) = -1; recordCount() = 4;"
                + "paddingBytes(0) = 1; paddingBytes(1) = 16; paddingBytes(2) = 2; paddingBytes(3) = 15; paddingBytes(4) = -1;"
                + "undo() = 3; declareRecord(7) = 3; paddingBytes(3) = 7");
        Script.run("promise 2, a record is there at once", "declareRecord(4) = 0; paddingBytes(0) = 4; declareRecord(5) = 1; paddingBytes(1) = 5;"
                + "partitionCount(1) = 0; escapes(1) = 0; undo() = 1; paddingBytes(1) = -1; declareRecord(6) = 1; paddingBytes(1) = 6");
    }

    private static void accesses() {
        for (boolean store : new boolean[] {true, false}) {
            String title = store ? "promise 3" : "promise 4";
            Script.run(title, access(store, 0, 0, 1, 0, -1) + "declareRecord(4) = 0; declareRecord(16) = 1;"
                    + access(store, -1, 0, 1, 0, -1) + access(store, 2, 0, 1, 0, -1)
                    + access(store, Integer.MIN_VALUE, 0, 1, 0, -1) + access(store, Integer.MAX_VALUE, 0, 1, 0, -1)
                    + access(store, 0, -1, 1, 0, -1) + access(store, 0, 4, 1, 0, -1) + access(store, 0, 3, 2, 0, -1)
                    + access(store, 0, 1, 4, 0, -1) + access(store, 1, 13, 4, 0, -1) + access(store, 1, 16, 1, 0, -1)
                    + access(store, 0, Integer.MAX_VALUE, 1, 0, -1) + access(store, 0, Integer.MAX_VALUE, 4, 0, -1)
                    + access(store, 0, Integer.MIN_VALUE, 4, 0, -1)
                    + access(store, 0, 0, 0, 0, -1) + access(store, 0, 0, 3, 0, -1) + access(store, 0, 0, 5, 0, -1)
                    + access(store, 1, 0, 8, 0, -1) + access(store, 0, 0, -1, 0, -1) + access(store, 0, 1, -1, 0, -1)
                    + access(store, 0, 0, Integer.MIN_VALUE, 0, -1) + access(store, 0, 0, Integer.MAX_VALUE, 0, -1)
                    + access(store, 0, 0, 1, -1, -1) + access(store, 0, 0, 1, 8, -1)
                    + access(store, 0, 0, 1, Integer.MIN_VALUE, -1) + access(store, 0, 0, 1, Integer.MAX_VALUE, -1)
                    + "instructionCount() = 0;"
                    + access(store, 0, 3, 1, 7, 0) + access(store, 0, 2, 2, 0, 1) + access(store, 0, 0, 4, 3, 2)
                    + access(store, 1, 12, 4, 1, 3) + access(store, 1, 15, 1, 1, 4) + "instructionCount() = 5;"
                    + "undo() = 6; undo() = 5; instructionCount() = 3");
        }
        Script.run("promise 3, order of the arguments", """
            declareRecord(8) = 0; appendConstant(5,7) = 0; appendStore(0,4,2,5) = 1
            partitionStart(0,0) = 4; partitionLength(0,0) = 2; isLive(0,0) = 0
            """);
        Script.run("promise 4, order of the arguments", """
            declareRecord(8) = 0; appendConstant(5,7) = 0; appendLoad(5,0,4,2) = 1; appendOutput(5) = 2
            partitionStart(0,0) = 4; partitionLength(0,0) = 2; isLive(0,0) = 1; outputAt(0,0) = 0
            """);
    }

    private static String access(boolean store, int record, int offset, int width, int register, int due) {
        return store
                ? "appendStore(" + record + "," + offset + "," + width + "," + register + ") = " + due + ";"
                : "appendLoad(" + register + "," + record + "," + offset + "," + width + ") = " + due + ";";
    }

    private static void appendCopy() {
        Script.run("promise 5", "appendCopy(0,0,0,0,1) = -1; declareRecord(4) = 0; declareRecord(16) = 1;"
                + "appendCopy(-1,0,1,0,1) = -1; appendCopy(2,0,1,0,1) = -1; appendCopy(1,0,-1,0,1) = -1; appendCopy(1,0,2,0,1) = -1;"
                + "appendCopy(0,-1,1,0,1) = -1; appendCopy(0,0,1,-1,1) = -1; appendCopy(0,4,1,0,1) = -1; appendCopy(1,0,0,4,1) = -1;"
                + "appendCopy(0,0,1,0,0) = -1; appendCopy(0,0,1,0,-1) = -1; appendCopy(0,0,1,0,5) = -1; appendCopy(1,0,0,0,5) = -1;"
                + "appendCopy(0,1,1,0,4) = -1; appendCopy(1,0,0,1,4) = -1; appendCopy(1,13,0,0,4) = -1;"
                + "appendCopy(0,0,1,0," + MIN + ") = -1; appendCopy(0,0,1,0," + MAX + ") = -1;"
                + "appendCopy(0," + MAX + ",1,0,1) = -1; appendCopy(0,0,1," + MAX + ",4) = -1;"
                + "appendCopy(0," + MIN + ",1,0,1) = -1; appendCopy(0,0,1," + MIN + ",4) = -1;"
                + "appendCopy(" + MIN + ",0,1,0,1) = -1; appendCopy(0,0," + MAX + ",0,1) = -1;"
                + "appendCopy(0," + MAX + ",0," + MIN + ",1) = -1; appendCopy(0," + MIN + ",0," + MAX + ",1) = -1;"
                + "appendCopy(0,0,0,0,1) = -1; appendCopy(0,0,0,1,2) = -1; appendCopy(0,1,0,0,2) = -1; appendCopy(1,0,1,7,8) = -1;"
                + "appendCopy(1,7,1,0,8) = -1; appendCopy(1,4,1,4,4) = -1; instructionCount() = 0;"
                + "appendCopy(0,0,0,1,1) = 0; appendCopy(0,2,0,0,2) = 1; appendCopy(0,0,0,2,2) = 2;"
                + "appendCopy(1,8,1,0,8) = 3; appendCopy(1,0,1,8,8) = 4; appendCopy(0,0,1,12,4) = 5; appendCopy(1,12,0,0,4) = 6;"
                + "appendCopy(0,0,1,0,4) = 7; appendCopy(1,1,0,1,3) = 8; instructionCount() = 9; undo() = 7");
    }

    private static void appendEscape() {
        Script.run("promise 6", "appendEscape(0) = -1; declareRecord(3) = 0; appendEscape(-1) = -1; appendEscape(1) = -1;"
                + "appendEscape(" + MIN + ") = -1; appendEscape(" + MAX + ") = -1; instructionCount() = 0;"
                + "appendEscape(0) = 0; appendEscape(0) = 1; instructionCount() = 2; undo() = 2; undo() = 1; appendEscape(0) = 0");
    }

    private static void registersOnly() {
        Script.run("promise 7", "appendConstant(-1,5) = -1; appendConstant(8,5) = -1; appendConstant(" + MIN + ",0) = -1;"
                + "appendConstant(" + MAX + ",0) = -1; instructionCount() = 0; undo() = -2;"
                + "appendConstant(0," + MIN + ") = 0; appendConstant(7," + MAX + ") = 1; appendOutput(0) = 2; appendOutput(7) = 3;"
                + "outputAt(0,0) = " + MIN + "; outputAt(1,1) = " + MAX + "; appendConstant(7,-1) = 4; appendOutput(7) = 5; outputAt(0,2) = -1");
        Script.run("promise 8", "appendAdd(-1,0,0) = -1; appendAdd(8,0,0) = -1; appendAdd(0,-1,0) = -1; appendAdd(0,8,0) = -1;"
                + "appendAdd(0,0,-1) = -1; appendAdd(0,0,8) = -1; appendAdd(" + MIN + ",0,0) = -1; appendAdd(0," + MAX + ",0) = -1;"
                + "appendAdd(0,0," + MAX + ") = -1; instructionCount() = 0; undo() = -2;"
                + "appendAdd(7,7,7) = 0; appendConstant(0,10) = 1; appendConstant(1,3) = 2; appendAdd(2,0,1) = 3; appendAdd(0,2,2) = 4;"
                + "appendOutput(2) = 5; appendOutput(0) = 6; appendOutput(1) = 7; outputAt(0,0) = 13; outputAt(0,1) = 26; outputAt(0,2) = 3");
        Script.run("promise 10", "appendOutput(-1) = -1; appendOutput(8) = -1; appendOutput(" + MIN + ") = -1; appendOutput(" + MAX + ") = -1;"
                + "instructionCount() = 0; undo() = -2; appendOutput(0) = 0; appendOutput(7) = 1; outputCount(0) = 2; outputAt(0,1) = 0");
    }

    private static void appendSkip() {
        Script.run("promise 9", "appendSkip(-1,1) = -1; appendSkip(8,1) = -1; appendSkip(0,0) = -1; appendSkip(0,10) = -1; appendSkip(0,-1) = -1;"
                + "appendSkip(0," + MIN + ") = -1; appendSkip(0," + MAX + ") = -1; appendSkip(" + MAX + ",1) = -1; instructionCount() = 0; undo() = -2;"
                + "appendSkip(0,1) = 0; appendSkip(7,9) = 1; instructionCount() = 2");
    }

    private static void limitOfInstructions() {
        StringBuilder text = new StringBuilder("declareRecord(8) = 0; declareRecord(8) = 1;");
        for (int position = 0; position < 24; position++) {
            text.append("appendOutput(").append(position % 8).append(") = ").append(position).append(';');
        }
        Script.run("the limit of 24 instructions", text + """
            instructionCount() = 24
            appendStore(0,0,1,0) = -3; appendLoad(0,0,0,1) = -3; appendCopy(0,0,1,0,1) = -3; appendEscape(0) = -3
            appendConstant(0,0) = -3; appendAdd(0,0,0) = -3; appendSkip(0,1) = -3; appendOutput(0) = -3
            # an argument that is wrong goes before the limit
            appendStore(2,0,1,0) = -1; appendStore(0,8,1,0) = -1; appendStore(0,0,3,0) = -1; appendStore(0,0,1,8) = -1
            appendLoad(8,0,0,1) = -1; appendLoad(0,2,0,1) = -1; appendLoad(0,0,7,2) = -1; appendLoad(0,0,0,0) = -1
            appendCopy(0,0,0,0,1) = -1; appendCopy(0,0,1,0,0) = -1; appendCopy(0,5,1,0,4) = -1; appendEscape(2) = -1
            appendConstant(8,0) = -1; appendAdd(0,0,8) = -1; appendSkip(0,10) = -1; appendSkip(8,1) = -1; appendOutput(8) = -1
            instructionCount() = 24; outputCount(0) = 24; outputCount(1) = 24
            declareRecord(2) = 2; recordCount() = 3
            # what failed was no edit: the eight latest are one record and seven outputs
            undo() = 7; recordCount() = 2; instructionCount() = 24; undo() = 6; instructionCount() = 23
            appendSkip(0,9) = 23; appendSkip(0,9) = -3; removeInstruction(0) = 23; appendSkip(0,9) = 23
            """);
    }

    private static void removeInstruction() {
        Script.run("promise 11", "removeInstruction(0) = -1; appendConstant(0,1) = 0; appendConstant(0,2) = 1; appendConstant(0,3) = 2; appendOutput(0) = 3;"
                + "removeInstruction(-1) = -1; removeInstruction(4) = -1; removeInstruction(" + MIN + ") = -1; removeInstruction(" + MAX + ") = -1;"
                + "instructionCount() = 4; outputAt(0,0) = 3; removeInstruction(2) = 3; instructionCount() = 3; outputAt(0,0) = 2;"
                + "removeInstruction(0) = 2; outputAt(0,0) = 2; removeInstruction(0) = 1; outputAt(0,0) = 0; removeInstruction(1) = -1;"
                + "removeInstruction(0) = 0; removeInstruction(0) = -1; instructionCount() = 0; outputCount(0) = 0");
        Script.run("promise 11, what is behind moves up", """
            declareRecord(4) = 0; declareRecord(4) = 1
            appendOutput(0) = 0; appendCopy(1,0,0,0,4) = 1; appendOutput(0) = 2; appendCopy(0,2,1,0,2) = 3
            pieceCount(0) = -1; pieceCount(1) = 2; pieceCount(3) = 1
            removeInstruction(0) = 3; pieceCount(0) = 2; pieceCount(1) = -1; pieceCount(2) = 1; pieceCount(3) = -1
            removeInstruction(0) = 2; pieceCount(0) = -1; pieceCount(1) = 1; pieceLength(1,0) = 2
            """);
    }

    private static void undo() {
        Script.run("promise 12", """
            undo() = -2; declareRecord(4) = 0; appendConstant(0,5) = 0; appendOutput(0) = 1
            appendOutput(9) = -1; removeInstruction(2) = -1; declareRecord(0) = -1
            undo() = 2; instructionCount() = 1; outputCount(0) = 0
            undo() = 1; instructionCount() = 0; recordCount() = 1
            appendEscape(0) = 0; cost(0) = 4; undo() = 1; cost(0) = 0; escapes(0) = 0
            undo() = 0; recordCount() = 0; escapes(0) = -1; appendEscape(0) = -1; undo() = -2; undo() = -2
            declareRecord(9) = 0; paddingBytes(0) = 9; undo() = 0
            """);
    }

    private static void undoOfRemovals() {
        Script.run("promise 12, removals come back at their place", """
            appendConstant(0,1) = 0; appendOutput(0) = 1; appendConstant(0,2) = 2; appendOutput(0) = 3
            removeInstruction(0) = 3; outputAt(0,0) = 0; outputAt(0,1) = 2
            removeInstruction(1) = 2; outputAt(0,1) = 0; appendConstant(0,9) = 2; appendOutput(0) = 3; outputAt(0,2) = 9
            undo() = 7; undo() = 6; undo() = 5; outputAt(0,1) = 2; undo() = 4; outputAt(0,0) = 1; outputAt(0,1) = 2
            removeInstruction(3) = 3; undo() = 4; instructionCount() = 4; outputCount(0) = 2
            """);
    }

    private static void undoDepth() {
        StringBuilder text = new StringBuilder();
        for (int position = 0; position < 20; position++) {
            text.append("appendOutput(0) = ").append(position).append(';');
        }
        Script.run("promise 12, the last 8 edits alone", text + """
            undo() = 7; undo() = 6; undo() = 5; undo() = 4; undo() = 3; undo() = 2; undo() = 1; undo() = 0; undo() = -2
            instructionCount() = 12; outputCount(1) = 12
            removeInstruction(3) = 11; undo() = 0; instructionCount() = 12; undo() = -2
            declareRecord(1) = 0; declareRecord(2) = 1; declareRecord(3) = 2; declareRecord(4) = 3
            removeInstruction(0) = 11; removeInstruction(0) = 10; removeInstruction(0) = 9; removeInstruction(0) = 8
            removeInstruction(0) = 7; undo() = 7; undo() = 6; undo() = 5; undo() = 4; undo() = 3; instructionCount() = 12
            recordCount() = 4; undo() = 2; undo() = 1; undo() = 0; undo() = -2; recordCount() = 1; paddingBytes(0) = 1
            """);
        Script.run("promises 13 and 14", """
            declareRecord(5) = 0; recordCount() = 1; instructionCount() = 0; appendEscape(0) = 0; recordCount() = 1
            instructionCount() = 1; declareRecord(5) = 1; recordCount() = 2; instructionCount() = 1
            removeInstruction(0) = 0; recordCount() = 2; instructionCount() = 0; undo() = 3; instructionCount() = 1
            """);
    }
}
