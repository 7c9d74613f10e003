import java.util.List;

/** The document's limits, its sentences on edits and undo, and that a refused call and a question change nothing. */
final class StateBoundaries {
    private static final String[] APPENDS = {"appendStore(0,0,1,0)", "appendLoad(0,0,0,1)", "appendCopy(0,0,1,0,1)", "appendEscape(0)",
        "appendConstant(0,1)", "appendAdd(0,0,0)", "appendSkip(0,1)", "appendOutput(0)"};

    /** Every edit with arguments that fit nowhere: one wrong, two wrong, and the ends of int. */
    private static final String[] WRONG_EDITS = {
        "declareRecord(0)", "declareRecord(17)", "declareRecord(-1)", "declareRecord(MIN)", "declareRecord(MAX)",
        "appendStore(4,0,1,0)", "appendStore(-1,0,1,0)", "appendStore(0,-1,1,0)", "appendStore(0,16,1,0)", "appendStore(0,0,3,0)", "appendStore(0,0,1,8)",
        "appendStore(0,0,1,-1)", "appendStore(0,MAX,4,0)", "appendStore(MIN,MIN,MIN,MIN)", "appendStore(MAX,MAX,MAX,MAX)",
        "appendLoad(8,0,0,1)", "appendLoad(-1,0,0,1)", "appendLoad(0,4,0,1)", "appendLoad(0,0,-1,1)", "appendLoad(0,0,16,1)", "appendLoad(0,0,0,0)",
        "appendLoad(0,0,MAX,4)", "appendLoad(MIN,MIN,MIN,MIN)", "appendLoad(MAX,MAX,MAX,MAX)",
        "appendCopy(4,0,0,0,1)", "appendCopy(0,0,4,0,1)", "appendCopy(0,-1,1,0,1)", "appendCopy(0,0,1,-1,1)", "appendCopy(0,0,1,0,0)", "appendCopy(0,0,1,0,17)",
        "appendCopy(0,0,0,0,1)", "appendCopy(0,0,0,1,2)", "appendCopy(0,1,0,0,2)", "appendCopy(0,MAX,1,MAX,MAX)", "appendCopy(MIN,MIN,MIN,MIN,MIN)",
        "appendEscape(4)", "appendEscape(-1)", "appendEscape(MIN)", "appendEscape(MAX)",
        "appendConstant(8,0)", "appendConstant(-1,7)", "appendConstant(MIN,MIN)", "appendConstant(MAX,MAX)",
        "appendAdd(8,0,0)", "appendAdd(0,-1,0)", "appendAdd(0,0,8)", "appendAdd(MIN,MIN,MIN)", "appendAdd(MAX,MAX,MAX)",
        "appendSkip(8,1)", "appendSkip(0,0)", "appendSkip(0,10)", "appendSkip(MIN,MIN)", "appendSkip(MAX,MAX)",
        "appendOutput(8)", "appendOutput(-1)", "appendOutput(MIN)", "appendOutput(MAX)",
        "removeInstruction(-1)", "removeInstruction(24)", "removeInstruction(MIN)", "removeInstruction(MAX)"};

    private static final String[] WRONG_QUESTIONS = {
        "escapes(4)", "escapes(-1)", "escapes(MIN)", "escapes(MAX)", "partitionCount(4)", "partitionCount(-1)", "partitionStart(4,0)", "partitionStart(0,16)",
        "partitionStart(0,-1)", "partitionLength(4,0)", "partitionLength(0,MIN)", "isPromotable(-1,0)", "isPromotable(0,MAX)", "isLive(4,4)", "isLive(0,-1)",
        "paddingBytes(4)", "paddingBytes(-1)", "pieceCount(24)", "pieceCount(-1)", "pieceLength(24,0)", "pieceLength(2,16)", "pieceLength(2,-1)",
        "outputCount(2)", "outputCount(-1)", "cost(2)", "cost(-1)"};

    /** With every kind of instruction, live and dead partitions, a skipped LOAD and outputs; two of its edits are removals. */
    private static final String ORDINARY = "declareRecord(16); declareRecord(9); appendCopy(1,1,0,4,8); appendConstant(0,-2); appendStore(0,4,4,0); appendEscape(1);"
            + "appendSkip(3,1); appendLoad(1,0,8,2); appendLoad(2,1,3,1); appendAdd(2,2,0); appendOutput(2); appendOutput(0); removeInstruction(3); appendEscape(1); removeInstruction(0);"
            + "appendCopy(0,0,1,4,3); appendOutput(7); undo(); appendOutput(1);";

    private static final String FULL = "declareRecord(16); declareRecord(16); declareRecord(1); declareRecord(2); appendConstant(1,MIN); appendCopy(1,0,0,0,16);"
            + "appendStore(0,4,4,1); appendLoad(2,1,4,4);" + "appendOutput(2);".repeat(12) + "appendEscape(2); appendSkip(5,1); appendAdd(1,1,1); appendCopy(0,8,1,4,4);"
            + "appendLoad(0,0,8,4); appendOutput(0); appendEscape(3); appendAdd(1,1,1);";

    private StateBoundaries() {
    }

    static void hold() {
        limits();
        editsAreWhat();
        undoRestores();
        lastEight();
        severalErrors();
        refusedCalls();
        questions();
        manyCalls();
        constants();
    }

    private static void limits() {
        Sentence.description("A program uses at most 4 records, numbered from 0", "declareRecord(2) = 0; declareRecord(2) = 1; declareRecord(2) = 2; appendEscape(3) = -1; declareRecord(2) = 3;"
                + "appendEscape(3) = 0; appendEscape(4) = -1; declareRecord(2) = -3; recordCount() = 4; appendEscape(4) = -1; paddingBytes(4) = -1; cost(0) = 2");
        Sentence.also("declareRecord(16) = 0; declareRecord(16) = 1; declareRecord(16) = 2; declareRecord(16) = 3; appendConstant(0,9) = 0; appendStore(3,12,4,0) = 1;"
                + "appendCopy(0,12,3,12,4) = 2; appendLoad(1,0,12,4) = 3; appendOutput(1) = 4; outputAt(0,0) = 9; outputAt(1,0) = 9; declareRecord(16) = -3");
        Sentence.description("A record is an array of 1 to 16 bytes.", "declareRecord(0) = -1; declareRecord(17) = -1; declareRecord(1) = 0; declareRecord(16) = 1; appendStore(0,0,1,0) = 0; appendStore(0,1,1,0) = -1;"
                + "appendStore(1,15,1,0) = 1; appendStore(1,16,1,0) = -1; appendStore(1,12,4,0) = 2; appendStore(1,13,4,0) = -1; appendStore(0,0,2,0) = -1");
        Sentence.description("A program is a list of at most 24 instructions, numbered from 0.");
        for (String call : APPENDS) {
            Sentence.also("declareRecord(8); declareRecord(8);" + BuildingBoundaries.outputs(22) + call + " = 22;" + call + " = 23;" + call + " = -3; instructionCount() = 24;"
                    + "removeInstruction(24) = -1; removeInstruction(23) = 23;" + call + " = 23;" + call + " = -3");
        }
        Sentence.description("The width is 1, 2 or 4.", "declareRecord(16) = 0; appendStore(0,0,1,0) = 0; appendStore(0,0,2,0) = 1; appendStore(0,0,4,0) = 2; appendStore(0,0,0,0) = -1; appendStore(0,0,3,0) = -1;"
                + "appendStore(0,0,5,0) = -1; appendStore(0,0,8,0) = -1; appendStore(0,0,16,0) = -1; appendStore(0,0,-1,0) = -1; appendStore(0,0,MIN,0) = -1; appendStore(0,0,MAX,0) = -1");
    }

    private static void editsAreWhat() {
        Sentence.description("The successful calls of declareRecord, of the append methods, and of removeInstruction are edits.", "declareRecord(1) = 0; undo() = 0; recordCount() = 0; undo() = -2");
        for (String call : APPENDS) {
            Sentence.also("declareRecord(8) = 0; declareRecord(8) = 1;" + call + " = 0; undo() = 2; instructionCount() = 0; recordCount() = 2;" + call + " = 0; undo() = 2");
        }
        Sentence.also("appendOutput(0) = 0; removeInstruction(0) = 0; undo() = 1; instructionCount() = 1; undo() = 0; instructionCount() = 0; undo() = -2");
        StringBuilder text = new StringBuilder("declareRecord(8) = 0; declareRecord(8) = 1;");
        for (String wrong : WRONG_EDITS) {
            text.append(wrong).append(" = -1;");
        }
        Sentence.also(text + "undo() = 1; undo() = 0; undo() = -2");
        Sentence.also("declareRecord(8); declareRecord(8); declareRecord(8); declareRecord(8); declareRecord(8) = -3; declareRecord(8) = -3; undo() = 3; recordCount() = 3");
        Sentence.also("appendOutput(1) = 0; undo() = 0; undo() = -2; instructionCount() = 0");
    }

    /** Behind each prefix of the calls, and one edit more, undo leads back to what the prefix itself shows. */
    private static void undoRestores() {
        Sentence.description("undo() restores the records and the program as they were before the latest edit that has not been undone.");
        for (String setup : new String[] {"", ORDINARY, FULL}) {
            for (String edit : new String[] {"declareRecord(3)", "appendStore(0,5,2,1)", "appendLoad(0,0,5,1)", "appendCopy(1,2,0,3,4)", "appendEscape(0)", "appendConstant(2,1)",
                "appendAdd(3,0,0)", "appendSkip(3,9)", "appendOutput(2)", "removeInstruction(0)", "removeInstruction(2)", "removeInstruction(23)"}) {
                sameNow(setup, setup + edit + ";", edit);
            }
        }
        Sentence.also("appendConstant(0,1) = 0; appendOutput(0) = 1; appendConstant(0,3) = 2; undo() = 2; appendConstant(0,4) = 2; appendOutput(0) = 3; outputAt(0,1) = 4;"
                + "undo() = 3; undo() = 2; instructionCount() = 2; undo() = 1; undo() = 0; instructionCount() = 0; undo() = -2");
        Sentence.also(FULL + "removeInstruction(0) = 23; appendOutput(6) = 23; appendOutput(6) = -3; undo() = 7; undo() = 6; instructionCount() = 24; trapPosition() = 23; undo() = 5; instructionCount() = 23");
    }

    /** An edit that is refused is not undone. */
    private static void sameNow(String setup, String edited, String edit) {
        AggregateSplitter subject = new AggregateSplitter();
        Script.run("a setup", subject, setup);
        int before = subject.recordCount() + subject.instructionCount();
        AggregateSplitter other = new AggregateSplitter();
        Script.run("a setup", other, edited);
        boolean wasEdit = other.recordCount() + other.instructionCount() != before;
        compare("undo of " + edit, firstPart(Answers.after(setup)), firstPart(Answers.after(edited + (wasEdit ? "undo();" : ""))));
    }

    private static List<String> firstPart(List<String> lines) {
        return lines.stream().filter(line -> line.startsWith("0 undos")).toList();
    }

    private static void lastEight() {
        Sentence.description("The last 8 edits can be undone.");
        for (int edits = 7; edits <= 24; edits++) {
            int left = Math.max(0, edits - 8);
            StringBuilder text = new StringBuilder(BuildingBoundaries.outputs(edits));
            for (int still = Math.min(edits, 8) - 1; still >= 0; still--) {
                text.append("undo() = ").append(still).append(';');
            }
            Sentence.also(text + "instructionCount() = " + left + "; undo() = -2; instructionCount() = " + left + "; appendOutput(0) = " + left + "; undo() = 0; undo() = -2");
        }
        Sentence.also("declareRecord(1); declareRecord(2); declareRecord(3); declareRecord(4);" + BuildingBoundaries.outputs(4)
                + "undo() = 7; undo() = 6; undo() = 5; undo() = 4; recordCount() = 4; undo() = 3; undo() = 2; undo() = 1; undo() = 0; recordCount() = 0; undo() = -2");
        Sentence.also("declareRecord(1); declareRecord(2); declareRecord(3); declareRecord(4);" + BuildingBoundaries.outputs(5)
                + "undo() = 7; undo() = 6; undo() = 5; undo() = 4; undo() = 3; undo() = 2; undo() = 1; undo() = 0; recordCount() = 1; paddingBytes(0) = 1; undo() = -2");
        Sentence.also(BuildingBoundaries.outputs(10) + "undo() = 7; undo() = 6; undo() = 5; appendEscape(0) = -1; appendOutput(1) = 7; appendOutput(1) = 8;"
                + "undo() = 6; undo() = 5; undo() = 4; undo() = 3; undo() = 2; undo() = 1; undo() = 0; instructionCount() = 2; undo() = -2");
        Sentence.also(BuildingBoundaries.outputs(9) + "removeInstruction(0);".repeat(9) + "instructionCount() = 0;"
                + "undo() = 7; undo() = 6; undo() = 5; undo() = 4; undo() = 3; undo() = 2; undo() = 1; undo() = 0; instructionCount() = 8; undo() = -2");
    }

    private static void severalErrors() {
        Sentence.description("If several errors apply to a call, INVALID_ARGUMENT is returned rather than LIMIT_REACHED.");
        StringBuilder text = new StringBuilder(FULL + "recordCount() = 4; instructionCount() = 24;");
        for (String wrong : WRONG_EDITS) {
            text.append(wrong).append(" = -1;");
        }
        text.append("declareRecord(1) = -3; declareRecord(16) = -3;");
        for (String call : APPENDS) {
            text.append(call).append(" = -3;");
        }
        Sentence.also(text + "recordCount() = 4; instructionCount() = 24");
    }

    private static void refusedCalls() {
        Sentence.description("A call that returns an error changes nothing.");
        for (String setup : new String[] {"", ORDINARY, FULL, ORDINARY + "undo();".repeat(9)}) {
            List<String> before = Answers.after(setup);
            for (String wrong : WRONG_EDITS) {
                changesNothing(before, setup, wrong + " = -1;");
            }
            for (String wrong : WRONG_QUESTIONS) {
                changesNothing(before, setup, wrong + " = -1;");
            }
        }
        // Removals that are undone leave the program full, but with room among the last 8 edits.
        for (int removals : new int[] {0, 1, 7, 8}) {
            callsAtTheLimits(FULL + "removeInstruction(0);".repeat(removals) + "undo();".repeat(removals));
        }
        changesNothing(Answers.after(""), "", "undo() = -2;");
        changesNothing(Answers.after(""), "", "appendStore(0,0,1,0) = -1; appendLoad(0,0,0,1) = -1; appendCopy(0,0,0,0,1) = -1; appendEscape(0) = -1; removeInstruction(0) = -1;");
        String nothingLeft = FULL + "undo();".repeat(8);
        changesNothing(Answers.after(nothingLeft), nothingLeft, "undo() = -2; undo() = -2;");
    }

    private static void callsAtTheLimits(String full) {
        List<String> before = Answers.after(full);
        for (String call : APPENDS) {
            changesNothing(before, full, call + " = -3;");
        }
        changesNothing(before, full, "declareRecord(1) = -3;");
        changesNothing(before, full, "declareRecord(16) = -3;");
    }

    private static void changesNothing(List<String> before, String setup, String call) {
        compare("behind " + call, before, Answers.after(setup + call));
    }

    private static void compare(String what, List<String> due, List<String> got) {
        int first = 0;
        while (first < Math.min(due.size(), got.size()) && due.get(first).equals(got.get(first))) {
            first++;
        }
        String difference = first < due.size() && first < got.size() ? due.get(first) + ", then " + got.get(first) : "";
        Sentence.same(what + " " + difference, due.equals(got) ? 1 : 0, 1);
    }

    private static void questions() {
        // Nothing else is an edit, so a question leaves the records, the program and what can be undone as they were.
        Sentence.description("of declareRecord, of the append methods, and of removeInstruction are edits");
        List<String> questions = Answers.questions();
        for (String setup : new String[] {"", ORDINARY, FULL}) {
            List<String> before = Answers.after(setup);
            for (int first = 0; first < questions.size(); first += 100) {
                String asked = String.join(";", questions.subList(first, Math.min(first + 100, questions.size())));
                compare("questions change nothing", before, Answers.after(setup + asked + ";"));
            }
            compare("outputAt and checksum with wrong arguments change nothing", before,
                    Answers.after(setup + "outputAt(2,0) = 0; outputAt(-1,0) = 0; outputAt(0,24) = 0; outputAt(1,-1) = 0; outputAt(MIN,MAX) = 0; checksum(2) = 0; checksum(-1) = 0; checksum(MAX) = 0;"));
        }
    }

    private static void manyCalls() {
        Sentence.whatItIs("An object is used for at most 512 calls after it has been made");
        // 506 calls, then six questions: the answer to the last of them is that to call 512.
        Sentence.also("declareRecord(4) = 0; appendConstant(0,-2) = 0; appendStore(0,0,4,0) = 1; appendEscape(0) = 2;" + "appendOutput(0) = 3; undo() = 4;".repeat(251)
                + "checksum(0) = 7820129; cost(1) = 5; instructionCount() = 3; undo() = 3; undo() = 2; cost(0) = 0");
        Sentence.also("appendOutput(0) = 0;" + "removeInstruction(0) = 0; appendOutput(0) = 0;".repeat(255) + "outputCount(1) = 1");
        Sentence.also("declareRecord(0) = -1;".repeat(511) + "declareRecord(16) = 0");
        Sentence.also("declareRecord(1) = 0; undo() = 0;".repeat(255) + "undo() = -2; declareRecord(1) = 0");
    }

    private static void constants() {
        Sentence.description("`INVALID_ARGUMENT = -1`: An argument is out of its range.");
        Sentence.same("INVALID_ARGUMENT", AggregateSplitter.INVALID_ARGUMENT, -1);
        Sentence.description("`INVALID_STATE = -2`: The call is not possible in the present state.");
        Sentence.same("INVALID_STATE", AggregateSplitter.INVALID_STATE, -2);
        Sentence.description("`LIMIT_REACHED = -3`: A capacity is exhausted.");
        Sentence.same("LIMIT_REACHED", AggregateSplitter.LIMIT_REACHED, -3);
        Sentence.description("`NONE = -9`: There is no such value.");
        Sentence.same("NONE", AggregateSplitter.NONE, -9);
    }
}
