/** The boundary cases of promises 1 to 14: the edits, undo and the two counts. */
final class BuildingBoundaries {
    /** Just outside 0 to 7, the ends of int, and numbers whose lowest bits alone would fit. */
    static final String NO_REGISTERS = "-1 8 -8 256 65536 -2147483641 MIN MAX";
    private static final String NO_RECORDS = "-1 4 -4 256 65536 MIN MAX";
    private static final String NO_WIDTHS = "0 3 5 6 7 8 16 -1 -2 -4 257 65537 MIN MAX";
    private static final int[] WIDTHS = {1, 2, 4};
    private static final String NUMBER = "Returns the number of the new instruction";
    private static final String LIMIT = "LIMIT_REACHED if there are 24 instructions";
    private static final String NO_REGISTER = "INVALID_ARGUMENT if there is no such register";
    private static final String EXISTING = "the number of an existing record";

    private BuildingBoundaries() {
    }

    static void hold() {
        newObject();
        declareRecord();
        access(3, "appendStore(%r,%o,%w,%x)");
        access(4, "appendLoad(%x,%r,%o,%w)");
        copyArguments();
        copyRanges();
        copyAnswers();
        appendEscape();
        appendConstant();
        appendAdd();
        appendSkip();
        appendOutput();
        removeInstruction();
        undo();
        counts();
    }

    // ---- texts of calls

    static String records(int count) {
        return "declareRecord(8);".repeat(count);
    }

    static String outputs(int count) {
        return "appendOutput(0);".repeat(count);
    }

    /** The call with each value in place of the ?, those that are refused first. */
    static String values(String call, String allowed, String refused) {
        StringBuilder text = new StringBuilder();
        for (String value : refused.split(" ")) {
            text.append(call.replace("?", value)).append(" = -1;");
        }
        text.append("instructionCount() = 0;");
        int number = 0;
        for (String value : allowed.split(" ")) {
            text.append(call.replace("?", value)).append(" = ").append(number).append(';');
            number++;
        }
        return text.append("instructionCount() = ").append(number).append(';').toString();
    }

    /** The record's number in place of the ?, with no record, with one, with four and with one taken back. */
    private static void existingRecords(String call, String otherRecord) {
        Sentence.also(call.replace("?", "0") + " = -1;" + call.replace("?", "-1") + " = -1; instructionCount() = 0; undo() = -2");
        Sentence.also(otherRecord + values(call, "0", "-1 1 2 3 MIN MAX"));
        Sentence.also(otherRecord + records(3) + values(call, "0 1 2 3", NO_RECORDS));
        Sentence.also(otherRecord + "declareRecord(8) = 1; undo() = 1;" + call.replace("?", "1") + " = -1; declareRecord(8) = 1;"
                + call.replace("?", "1") + " = 0");
    }

    /** From an empty program up to the 24th instruction; the 25th is refused, until one goes. */
    private static void numbers(int promise, String call) {
        StringBuilder text = new StringBuilder(records(2));
        for (int number = 0; number < 24; number++) {
            text.append(call).append(" = ").append(number).append(';');
        }
        Sentence.promise(promise, NUMBER, text + "instructionCount() = 24; removeInstruction(0) = 23;" + call + " = 23;"
                + "undo() = 7; undo() = 6;" + "undo() = 5;" + call + " = 23");
        Sentence.also(records(2) + "appendOutput(0) = 0; appendOutput(0) = 1; removeInstruction(0) = 1;" + call + " = 1; undo() = 5;" + call + " = 1");
    }

    private static void limit(int promise, String call) {
        Sentence.promise(promise, LIMIT, records(2) + outputs(23) + "instructionCount() = 23;" + call + " = 23;"
                + call + " = -3;" + call + " = -3; instructionCount() = 24; undo() = 7; instructionCount() = 23;" + call + " = 23;" + call + " = -3;"
                + "removeInstruction(23) = 23;" + call + " = 23;" + call + " = -3; undo() = 7; undo() = 6; instructionCount() = 24;" + call + " = -3");
    }

    // ---- promises 1 and 2

    private static void newObject() {
        Sentence.promise(1, "No records", "recordCount() = 0; appendEscape(0) = -1; escapes(0) = -1; partitionCount(0) = -1; paddingBytes(0) = -1; declareRecord(1) = 0");
        Sentence.promise(1, "no instructions", "instructionCount() = 0; removeInstruction(0) = -1; pieceCount(0) = -1; outputCount(0) = 0; outputCount(1) = 0;"
                + "checksum(0) = 0; checksum(1) = 0; cost(0) = 0; cost(1) = 0; trapPosition() = -9; appendOutput(0) = 0");
        Sentence.promise(1, "nothing to undo", "undo() = -2; undo() = -2; recordCount() = 0; instructionCount() = 0");
    }

    private static void declareRecord() {
        Sentence.promise(2, "`size`: 1 to 16");
        for (int size = 1; size <= 16; size++) {
            int last = size - 1;
            Sentence.also("declareRecord(" + size + ") = 0; paddingBytes(0) = " + size + ";"
                    + "appendStore(0," + last + ",1,0) = 0; appendStore(0," + size + ",1,0) = -1; paddingBytes(0) = " + last);
        }
        Sentence.promise(2, "Returns the number of the new record", """
            declareRecord(16) = 0; declareRecord(1) = 1; appendOutput(0) = 0; declareRecord(16) = 2; declareRecord(1) = 3
            undo() = 4; declareRecord(2) = 3; undo() = 4; undo() = 3; undo() = 2; declareRecord(2) = 2; declareRecord(2) = 3
            """);
        Sentence.promise(2, "INVALID_ARGUMENT if the size is out of range");
        for (int size : new int[] {0, 17, -1, -16, 18, 32, 256, 257, 65537, Integer.MIN_VALUE, Integer.MIN_VALUE + 1, Integer.MAX_VALUE}) {
            Sentence.also("declareRecord(" + size + ") = -1; recordCount() = 0; undo() = -2; declareRecord(4) = 0; declareRecord(" + size + ") = -1; recordCount() = 1");
        }
        Sentence.promise(2, "LIMIT_REACHED if there are 4 records", "declareRecord(1) = 0; declareRecord(1) = 1; declareRecord(1) = 2; declareRecord(1) = 3;"
                + "declareRecord(1) = -3; declareRecord(16) = -3; recordCount() = 4; undo() = 3; declareRecord(16) = 3; declareRecord(16) = -3; paddingBytes(3) = 16");
    }

    // ---- promises 3 and 4

    /** The call with %r for the record, %o for the offset, %w for the width and %x for the register. */
    private static void access(int promise, String form) {
        Sentence.promise(promise, "`record`: " + EXISTING);
        existingRecords(filled(form, "?", "0", "1", "0"), records(1));
        Sentence.promise(promise, "`offset`: 0 or greater", records(1) + values(filled(form, "0", "?", "1", "0"), "0 1 7", "-1 -2 -8 -256 MIN -2147483647"));
        Sentence.also(records(1) + values(filled(form, "0", "?", "4", "0"), "0 1 4", "-1 -2 -3 -4 MIN"));
        Sentence.promise(promise, "`width`: 1, 2 or 4", records(1) + values(filled(form, "0", "0", "?", "0"), "1 2 4", NO_WIDTHS));
        Sentence.also("declareRecord(16) = 0;" + values(filled(form, "0", "8", "?", "0"), "1 2 4", NO_WIDTHS));
        Sentence.promise(promise, "offset + width is at most the size of the record");
        for (int size = 1; size <= 16; size++) {
            fittingAccesses(form, size);
        }
        Sentence.also(records(1) + values(filled(form, "0", "?", "4", "0"), "4", "5 6 7 8 MAX 2147483646 2147483644 2147483643"));
        Sentence.promise(promise, "`register`: 0 to 7", records(1) + values(filled(form, "0", "0", "1", "?"), "0 1 2 3 4 5 6 7", NO_REGISTERS));
        numbers(promise, filled(form, "1", "4", "4", "7"));
        Sentence.promise(promise, "INVALID_ARGUMENT if an argument is not as described", records(1)
                + refused(form, "1", "0", "1", "0") + refused(form, "0", "-1", "1", "0") + refused(form, "0", "0", "3", "0")
                + refused(form, "0", "7", "2", "0") + refused(form, "0", "0", "1", "8") + refused(form, "-1", "8", "0", "-1")
                + refused(form, "MIN", "MIN", "MIN", "MIN") + refused(form, "MAX", "MAX", "MAX", "MAX") + refused(form, "0", "MAX", "MAX", "0")
                + refused(form, "0", "MIN", "MIN", "0") + refused(form, "0", "-1", "MIN", "0") + "instructionCount() = 0; undo() = 0");
        limit(promise, filled(form, "0", "0", "1", "0"));
    }

    private static String filled(String form, String record, String offset, String width, String register) {
        return form.replace("%r", record).replace("%o", offset).replace("%w", width).replace("%x", register);
    }

    private static String refused(String form, String record, String offset, String width, String register) {
        return filled(form, record, offset, width, register) + " = -1;";
    }

    private static void fittingAccesses(String form, int size) {
        StringBuilder text = new StringBuilder("declareRecord(" + size + ") = 0;");
        for (int width : WIDTHS) {
            for (int offset = 0; offset <= 17; offset++) {
                boolean fits = offset + width <= size;
                text.append(filled(form, "0", "" + offset, "" + width, "0")).append(fits ? " = 0; undo() = 1;" : " = -1;");
            }
        }
        Sentence.also(text + "instructionCount() = 0");
    }

    // ---- promise 5

    private static void copyArguments() {
        Sentence.promise(5, "`destination`: " + EXISTING);
        existingRecords("appendCopy(?,4,0,0,1)", records(1));
        Sentence.promise(5, "`source`: " + EXISTING);
        existingRecords("appendCopy(0,4,?,0,1)", records(1));
        Sentence.promise(5, "`destinationOffset`: 0 or greater", records(2) + values("appendCopy(1,?,0,0,1)", "0 1 7", "-1 -2 -256 MIN -2147483647"));
        Sentence.also(records(2) + values("appendCopy(1,?,0,0,8)", "0", "-1 -7 -8 MIN"));
        Sentence.promise(5, "`sourceOffset`: 0 or greater", records(2) + values("appendCopy(1,0,0,?,1)", "0 1 7", "-1 -2 -256 MIN -2147483647"));
        Sentence.also(records(2) + values("appendCopy(1,0,0,?,8)", "0", "-1 -7 -8 MIN"));
        Sentence.promise(5, "`length`: 1 or greater", records(2) + values("appendCopy(1,0,0,0,?)", "1 2 3 4 5 6 7 8", "0 -1 -2 -8 MIN -2147483647"));
        Sentence.also(records(2) + "appendCopy(1,8,0,8,0) = -1; appendCopy(1,8,0,8,-1) = -1; appendCopy(1,8,0,8,1) = -1; instructionCount() = 0");
        Sentence.also("declareRecord(16) = 0; declareRecord(16) = 1;" + values("appendCopy(1,0,0,0,?)", "1 3 15 16", "0 -1 17 MIN MAX"));
    }

    private static void copyRanges() {
        Sentence.promise(5, "each offset + length is at most the size of its record");
        for (int to = 1; to <= 16; to++) {
            for (int from = 1; from <= 16; from++) {
                lastAndFirstCopies(to, from);
            }
        }
        Sentence.also(records(2) + values("appendCopy(0,?,1,0,2)", "6", "7 8 MAX 2147483646 2147483645"));
        Sentence.also(records(2) + values("appendCopy(0,0,1,?,2)", "6", "7 8 MAX 2147483646 2147483645"));
        Sentence.also(records(2) + values("appendCopy(0,1,1,1,?)", "7", "8 9 MAX 2147483646 2147483640"));
        Sentence.promise(5, "or if both records are the same and the ranges have a byte in common");
        for (int to = 0; to <= 16; to++) {
            copiesInOneRecord(to);
        }
        Sentence.also(records(2) + "appendCopy(0,0,0,0,8) = -1; appendCopy(1,1,1,1,1) = -1; appendCopy(0,0,1,0,8) = 0; appendCopy(1,3,0,3,5) = 1;"
                + "appendCopy(0,MAX,0,MIN,1) = -1; appendCopy(0,MIN,0,MAX,1) = -1; appendCopy(0,MIN,0,0,MAX) = -1; instructionCount() = 2");
    }

    /** The last offsets that fit, and one more on each side. */
    private static void lastAndFirstCopies(int to, int from) {
        StringBuilder text = new StringBuilder("declareRecord(" + to + ") = 0; declareRecord(" + from + ") = 1;");
        for (int length = 1; length <= 17; length++) {
            int lastTo = to - length;
            int lastFrom = from - length;
            text.append(copy(0, lastTo, 1, lastFrom, length)).append(lastTo >= 0 && lastFrom >= 0 ? " = 0; undo() = 2;" : " = -1;");
            text.append(copy(0, lastTo + 1, 1, lastFrom, length)).append(" = -1;");
            text.append(copy(0, lastTo, 1, lastFrom + 1, length)).append(" = -1;");
        }
        Sentence.also(text + "instructionCount() = 0");
    }

    private static void copiesInOneRecord(int to) {
        StringBuilder text = new StringBuilder("declareRecord(16) = 0;");
        for (int from = 0; from <= 15; from++) {
            for (int length = 1; length <= 16 - Math.min(to, 15); length++) {
                boolean fits = to + length <= 16 && from + length <= 16;
                boolean apart = to + length <= from || from + length <= to;
                text.append(copy(0, to, 0, from, length)).append(fits && apart ? " = 0; undo() = 1;" : " = -1;");
            }
        }
        Sentence.also(text + "instructionCount() = 0");
    }

    private static String copy(int to, int toOffset, int from, int fromOffset, int length) {
        return "appendCopy(" + to + "," + toOffset + "," + from + "," + fromOffset + "," + length + ")";
    }

    private static void copyAnswers() {
        numbers(5, "appendCopy(1,0,0,0,8)");
        Sentence.promise(5, "INVALID_ARGUMENT if an argument is not as described", records(2) + """
            appendCopy(2,0,0,0,1) = -1; appendCopy(0,-1,1,0,1) = -1; appendCopy(0,0,2,0,1) = -1; appendCopy(0,0,1,-1,1) = -1; appendCopy(0,0,1,0,0) = -1
            appendCopy(0,8,1,0,1) = -1; appendCopy(0,0,1,8,1) = -1; appendCopy(0,0,1,0,9) = -1; appendCopy(-1,-1,-1,-1,-1) = -1
            appendCopy(MIN,MIN,MIN,MIN,MIN) = -1; appendCopy(MAX,MAX,MAX,MAX,MAX) = -1; appendCopy(0,MAX,1,MAX,MAX) = -1
            appendCopy(0,MIN,1,MIN,MIN) = -1; appendCopy(0,MIN,1,MIN,MAX) = -1; appendCopy(0,MAX,1,MAX,MIN) = -1
            appendCopy(0,-1,1,-1,MIN) = -1; appendCopy(2,0,2,4,1) = -1; instructionCount() = 0; undo() = 1
            """);
        limit(5, "appendCopy(0,0,1,0,8)");
    }

    // ---- promises 6 to 10

    private static void appendEscape() {
        Sentence.promise(6, "`record`: " + EXISTING);
        existingRecords("appendEscape(?)", records(1));
        numbers(6, "appendEscape(1)");
        Sentence.promise(6, "INVALID_ARGUMENT if there is no such record", "appendEscape(0) = -1; declareRecord(1) = 0; appendEscape(1) = -1; appendEscape(-1) = -1;"
                + "appendEscape(MIN) = -1; appendEscape(MAX) = -1; instructionCount() = 0; escapes(0) = 0; undo() = 0; appendEscape(0) = -1; instructionCount() = 0");
        limit(6, "appendEscape(0)");
    }

    private static void appendConstant() {
        Sentence.promise(7, "`register`: 0 to 7", values("appendConstant(?,5)", "0 1 2 3 4 5 6 7", NO_REGISTERS));
        Sentence.promise(7, "`value`: any int");
        for (int value : new int[] {0, 1, -1, 255, -256, 32768, 65536, Integer.MIN_VALUE, Integer.MIN_VALUE + 1, Integer.MAX_VALUE, Integer.MAX_VALUE - 1}) {
            Sentence.also("appendConstant(7," + value + ") = 0; appendOutput(7) = 1; outputAt(0,0) = " + value + "; outputAt(1,0) = " + value);
        }
        numbers(7, "appendConstant(7,MIN)");
        Sentence.promise(7, NO_REGISTER, "appendConstant(8,0) = -1; appendConstant(-1,0) = -1; appendConstant(MIN,MIN) = -1; appendConstant(MAX,MAX) = -1;"
                + "instructionCount() = 0; undo() = -2");
        limit(7, "appendConstant(0,MAX)");
    }

    private static void appendAdd() {
        Sentence.promise(8, "`register`: 0 to 7", values("appendAdd(?,0,0)", "0 1 2 3 4 5 6 7", NO_REGISTERS));
        Sentence.promise(8, "`first`: 0 to 7", values("appendAdd(0,?,0)", "0 1 2 3 4 5 6 7", NO_REGISTERS));
        Sentence.promise(8, "`second`: 0 to 7", values("appendAdd(0,0,?)", "0 1 2 3 4 5 6 7", NO_REGISTERS));
        numbers(8, "appendAdd(7,7,7)");
        Sentence.promise(8, NO_REGISTER, "appendAdd(8,0,0) = -1; appendAdd(0,8,0) = -1; appendAdd(0,0,8) = -1; appendAdd(-1,-1,-1) = -1; appendAdd(8,8,8) = -1;"
                + "appendAdd(MIN,MIN,MIN) = -1; appendAdd(MAX,MAX,MAX) = -1; instructionCount() = 0; undo() = -2");
        limit(8, "appendAdd(0,1,2)");
    }

    private static void appendSkip() {
        Sentence.promise(9, "`register`: 0 to 7", values("appendSkip(?,1)", "0 1 2 3 4 5 6 7", NO_REGISTERS));
        Sentence.promise(9, "`count`: 1 to 9", values("appendSkip(0,?)", "1 2 3 4 5 6 7 8 9", "0 10 -1 -9 11 16 257 65537 MIN -2147483647 MAX"));
        numbers(9, "appendSkip(7,9)");
        Sentence.promise(9, "INVALID_ARGUMENT if an argument is out of range", "appendSkip(8,1) = -1; appendSkip(-1,9) = -1; appendSkip(7,10) = -1; appendSkip(7,0) = -1;"
                + "appendSkip(8,10) = -1; appendSkip(-1,0) = -1; appendSkip(MIN,MIN) = -1; appendSkip(MAX,MAX) = -1; instructionCount() = 0; undo() = -2");
        limit(9, "appendSkip(0,1)");
    }

    private static void appendOutput() {
        Sentence.promise(10, "`register`: 0 to 7", values("appendOutput(?)", "0 1 2 3 4 5 6 7", NO_REGISTERS) + "outputCount(0) = 8; outputCount(1) = 8");
        numbers(10, "appendOutput(7)");
        Sentence.promise(10, NO_REGISTER, "appendOutput(8) = -1; appendOutput(-1) = -1; appendOutput(MIN) = -1; appendOutput(MAX) = -1; instructionCount() = 0;"
                + "outputCount(0) = 0; outputCount(1) = 0; undo() = -2");
        limit(10, "appendOutput(0)");
    }

    // ---- promises 11 to 14

    private static void removeInstruction() {
        Sentence.promise(11, "`instruction`: the number of an existing instruction");
        for (int count = 1; count <= 24; count++) {
            int left = count - 1;
            Sentence.also(outputs(count) + "removeInstruction(" + count + ") = -1; removeInstruction(-1) = -1; instructionCount() = " + count
                    + "; removeInstruction(" + left + ") = " + left + "; removeInstruction(" + left + ") = -1; undo() = " + Math.min(count, 7)
                    + "; removeInstruction(0) = " + left);
        }
        Sentence.promise(11, "The instructions behind it move up by one.");
        for (int removed = 0; removed < 24; removed++) {
            removedFromFullProgram(removed);
        }
        Sentence.promise(11, "Returns the number of instructions that are left", outputs(24) + countdown("removeInstruction(0)", 23, 0)
                + "instructionCount() = 0; removeInstruction(0) = -1; appendOutput(0) = 0; removeInstruction(0) = 0");
        Sentence.promise(11, "INVALID_ARGUMENT if there is no such instruction", "removeInstruction(0) = -1; removeInstruction(-1) = -1; removeInstruction(MIN) = -1;"
                + "removeInstruction(MAX) = -1; undo() = -2; appendOutput(0) = 0; removeInstruction(1) = -1; removeInstruction(-1) = -1; removeInstruction(MIN) = -1;"
                + "removeInstruction(MAX) = -1; removeInstruction(256) = -1; removeInstruction(65536) = -1; instructionCount() = 1; undo() = 0; removeInstruction(0) = -1");
        Sentence.also(outputs(24) + "removeInstruction(24) = -1; removeInstruction(25) = -1; removeInstruction(-1) = -1; removeInstruction(MAX) = -1; instructionCount() = 24");
    }

    /** The COPY at each place has one byte more than the one before, as far as 16 allow; the rest wraps around. */
    private static void removedFromFullProgram(int removed) {
        StringBuilder text = new StringBuilder("declareRecord(16) = 0; declareRecord(16) = 1; appendEscape(0) = 0; appendEscape(1) = 1;");
        for (int number = 2; number < 24; number++) {
            text.append(copy(1, 0, 0, 0, number % 16 + 1)).append(" = ").append(number).append(';');
        }
        text.append("removeInstruction(").append(removed).append(") = 23;");
        if (removed < 2) {
            // Without an ESCAPE the copies would be cut into pieces.
            text.append("appendEscape(").append(removed).append(") = 23;");
        }
        for (int number = 0; number < 23; number++) {
            int before = number < removed ? number : number + 1;
            text.append("pieceLength(").append(number).append(",0) = ").append(before < 2 ? -1 : before % 16 + 1).append(';');
        }
        Sentence.also(text + "pieceLength(23,0) = -1");
    }

    private static String countdown(String call, int first, int last) {
        StringBuilder text = new StringBuilder();
        for (int due = first; due >= last; due--) {
            text.append(call).append(" = ").append(due).append(';');
        }
        return text.toString();
    }

    private static void undo() {
        Sentence.promise(12, "Undoes the latest edit.", """
            declareRecord(3) = 0; declareRecord(5) = 1; undo() = 1; recordCount() = 1; paddingBytes(0) = 3; paddingBytes(1) = -1
            appendConstant(0,4) = 0; appendOutput(0) = 1; undo() = 2; outputCount(0) = 0; appendOutput(0) = 1; outputAt(0,0) = 4
            removeInstruction(0) = 1; outputAt(0,0) = 0; undo() = 3; outputAt(0,0) = 4; instructionCount() = 2
            """);
        Sentence.promise(12, "Returns how many edits can still be undone");
        for (int edits = 1; edits <= 24; edits++) {
            int most = Math.min(edits, 8);
            Sentence.also(outputs(edits) + countdown("undo()", most - 1, 0) + "undo() = -2; instructionCount() = " + (edits - most));
        }
        Sentence.promise(12, "INVALID_STATE if there is none to undo", "undo() = -2; declareRecord(1) = 0; undo() = 0; undo() = -2; undo() = -2; recordCount() = 0;"
                + "declareRecord(17) = -1; undo() = -2; appendOutput(8) = -1; undo() = -2; removeInstruction(0) = -1; undo() = -2; appendOutput(7) = 0; undo() = 0; undo() = -2");
    }

    private static void counts() {
        Sentence.promise(13, "Returns the number of records.", "recordCount() = 0; declareRecord(1) = 0; recordCount() = 1; declareRecord(16) = 1; recordCount() = 2;"
                + "declareRecord(0) = -1; recordCount() = 2; declareRecord(1) = 2; recordCount() = 3; declareRecord(1) = 3; recordCount() = 4; declareRecord(1) = -3;"
                + "recordCount() = 4; appendOutput(0) = 0; recordCount() = 4;" + countdown("undo()", 4, 0) + "recordCount() = 0");
        Sentence.promise(14, "Returns the number of instructions.", "instructionCount() = 0; appendOutput(8) = -1; instructionCount() = 0; declareRecord(1) = 0; instructionCount() = 0;"
                + "appendOutput(0) = 0; instructionCount() = 1;" + outputs(22) + "instructionCount() = 23; appendEscape(0) = 23; instructionCount() = 24;"
                + "appendEscape(0) = -3; instructionCount() = 24; removeInstruction(5) = 23; instructionCount() = 23; undo() = 7; instructionCount() = 24;"
                + "undo() = 6; instructionCount() = 23");
    }
}
