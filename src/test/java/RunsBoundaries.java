import java.math.BigInteger;

/** The boundary cases of promises 26 to 30, and of what the document describes of instructions and runs. */
final class RunsBoundaries {
    private static final int[] VALUES = {0, 1, -1, 2, 127, 128, 255, 256, 257, -255, -256, 32767, 32768, 65535, 65536, 65537, -65536, 1 << 24, 305419896,
        Integer.MAX_VALUE, Integer.MAX_VALUE - 1, Integer.MIN_VALUE, Integer.MIN_VALUE + 1, 1 << 30, -(1 << 30)};
    private static final String TWO = "declareRecord(16) = 0; declareRecord(16) = 1;";
    private static final String FORM = "`transformed`: 0 for the original program, 1 for the transformed program";
    private static final String NO_FORMS = "-1 2 -2 256 257 65536 65537 MIN MAX";

    private RunsBoundaries() {
    }

    static void hold() {
        registers();
        otherRegisters();
        store();
        loadEverywhere();
        load();
        constant();
        copy();
        escapeSum();
        escapeByte();
        add();
        skip();
        output();
        wholeRun();
        transformed();
        costs();
        trapPosition();
        outputCount();
        outputAt();
        checksum();
        cost();
    }

    // ---- texts of calls

    /** These outputs and no more, in both forms. */
    private static String outputs(int... values) {
        StringBuilder text = new StringBuilder();
        for (int form = 0; form <= 1; form++) {
            text.append("outputCount(").append(form).append(") = ").append(values.length).append(';');
            for (int index = 0; index < values.length; index++) {
                text.append("outputAt(").append(form).append(',').append(index).append(") = ").append(values[index]).append(';');
            }
        }
        return text.toString();
    }

    private static String both(String question, int due) {
        return question.replace("?", "0") + " = " + due + ";" + question.replace("?", "1") + " = " + due + ";";
    }

    /** Loads the byte into register 6 and puts it out. */
    private static String showByte(int record, int offset) {
        return "appendLoad(6," + record + "," + offset + ",1); appendOutput(6);";
    }

    private static String storeByte(int record, int offset, int value) {
        return "appendConstant(5," + value + "); appendStore(" + record + "," + offset + ",1,5);";
    }

    // ---- the instructions

    private static void registers() {
        StringBuilder text = new StringBuilder();
        for (int register = 0; register < 8; register++) {
            text.append("appendConstant(").append(register).append(',').append(100 + register).append(");");
        }
        for (int register = 0; register < 8; register++) {
            text.append("appendOutput(").append(register).append(");");
        }
        Sentence.description("and 8 registers, numbered from 0", text + outputs(100, 101, 102, 103, 104, 105, 106, 107)
                + "appendOutput(8) = -1; appendOutput(-1) = -1; appendConstant(8,0) = -1");
        Sentence.description("A register holds an int.", "appendConstant(0,MAX) = 0; appendOutput(0) = 1; appendConstant(0,MIN) = 2; appendOutput(0) = 3;"
                + outputs(Integer.MAX_VALUE, Integer.MIN_VALUE));
        Sentence.description("All bytes and registers are 0 when a run begins.");
        for (int register = 0; register < 8; register++) {
            Sentence.also("appendOutput(" + register + ") = 0; appendConstant(" + register + ",-1) = 1; appendOutput(" + register + ") = 2;" + outputs(0, -1) + outputs(0, -1));
        }
        for (int offset = 0; offset < 16; offset++) {
            Sentence.also("declareRecord(16) = 0;" + showByte(0, offset) + storeByte(0, offset, 255) + showByte(0, offset) + outputs(0, 255) + outputs(0, 255));
        }
        Sentence.also("declareRecord(1) = 0; appendEscape(0) = 0; checksum(0) = 0; checksum(1) = 0; checksum(0) = 0; checksum(1) = 0");
    }

    /** Each instruction between eight registers that all hold something and a look at all of them. */
    private static void otherRegisters() {
        Sentence.description("The instructions are:");
        registersBehind("appendStore(0,0,4,7)", -1, 0);
        registersBehind("appendCopy(0,0,0,8,8)", -1, 0);
        registersBehind("appendEscape(0)", -1, 0);
        registersBehind("appendSkip(7,9)", -1, 0);
        registersBehind("appendOutput(7)", -1, 0);
        for (int register = 0; register < 8; register++) {
            registersBehind("appendLoad(" + register + ",0,12,4)", register, 0);
            registersBehind("appendConstant(" + register + ",MIN)", register, Integer.MIN_VALUE);
            registersBehind("appendAdd(" + register + ",0,7)", register, 207);
        }
    }

    /** Only the changed register, if there is one, holds something else than 100 and its number. */
    private static void registersBehind(String instruction, int changed, int value) {
        StringBuilder text = new StringBuilder("declareRecord(16);");
        StringBuilder shown = new StringBuilder();
        for (int register = 0; register < 8; register++) {
            text.append("appendConstant(").append(register).append(',').append(100 + register).append(");");
            shown.append("appendOutput(").append(register).append(");");
        }
        text.append(instruction).append(" = 8;").append(shown);
        int first = instruction.startsWith("appendOutput") ? 1 : 0;
        for (int register = 0; register < 8; register++) {
            text.append(both("outputAt(?," + (first + register) + ")", register == changed ? value : 100 + register));
        }
        Sentence.also(text + both("outputCount(?)", 8 + first));
    }

    private static void store() {
        Sentence.description("writes the width least significant bytes of the register");
        for (int value : VALUES) {
            Sentence.also("declareRecord(16) = 0; appendConstant(0," + value + ") = 0; appendStore(0,15,1,0) = 1; appendStore(0,0,2,0) = 2; appendStore(0,4,4,0) = 3;"
                    + "appendLoad(1,0,15,1) = 4; appendLoad(2,0,0,2) = 5; appendLoad(3,0,4,4) = 6; appendOutput(1) = 7; appendOutput(2) = 8; appendOutput(3) = 9;"
                    + outputs(Math.floorMod(value, 256), Math.floorMod(value, 65536), value));
        }
        Sentence.description("to the bytes offset to offset + width - 1 of the record");
        for (int width : new int[] {1, 2, 4}) {
            Sentence.also(storeAmongOnes(width));
        }
        Sentence.description("least significant byte first", "declareRecord(16) = 0; appendConstant(0,67305985) = 0; appendStore(0,12,4,0) = 1;"
                + showByte(0, 12) + showByte(0, 13) + showByte(0, 14) + showByte(0, 15) + outputs(1, 2, 3, 4));
        Sentence.also("declareRecord(2) = 0; appendConstant(0,258) = 0; appendStore(0,0,2,0) = 1;" + showByte(0, 0) + showByte(0, 1) + outputs(2, 1));
    }

    /** A 0 of this width is stored from byte 2 on over bytes that are all 255. */
    private static String storeAmongOnes(int width) {
        StringBuilder text = new StringBuilder("declareRecord(8); appendConstant(0,-1); appendStore(0,0,4,0); appendStore(0,4,4,0); appendStore(0,2," + width + ",7);");
        int[] due = new int[8];
        for (int offset = 0; offset < 8; offset++) {
            text.append(showByte(0, offset));
            due[offset] = offset >= 2 && offset < 2 + width ? 0 : 255;
        }
        return text + outputs(due);
    }

    /** The bytes of the record are 241 to 256, the last as 0; each width is read at each offset from 0 to the last that fits. */
    private static void loadEverywhere() {
        Sentence.description("reads width bytes of the record from offset on");
        StringBuilder stores = new StringBuilder("declareRecord(16) = 0;");
        for (int offset = 0; offset < 16; offset += 4) {
            stores.append("appendConstant(0,").append(numberAt(offset, 4)).append("); appendStore(0,").append(offset).append(",4,0);");
        }
        for (int width : new int[] {1, 2, 4}) {
            for (int offset = 0; offset + width <= 16; offset++) {
                Sentence.also(stores + "appendLoad(1,0," + offset + "," + width + ") = 8; appendOutput(1) = 9;" + outputs(numberAt(offset, width)));
            }
        }
    }

    private static int numberAt(int offset, int width) {
        int number = 0;
        for (int step = width - 1; step >= 0; step--) {
            number = number * 256 + (241 + offset + step) % 256;
        }
        return number;
    }

    private static void load() {
        Sentence.description("With width 1 and 2 the number is not negative");
        for (int value : new int[] {0, 1, 127, 128, 254, 255}) {
            Sentence.also("declareRecord(1) = 0; appendConstant(0," + value + ") = 0; appendStore(0,0,1,0) = 1; appendLoad(0,0,0,1) = 2; appendOutput(0) = 3;" + outputs(value));
        }
        for (int value : new int[] {0, 255, 256, 32767, 32768, 65534, 65535}) {
            Sentence.also("declareRecord(2) = 0; appendConstant(0," + value + ") = 0; appendStore(0,0,2,0) = 1; appendLoad(0,0,0,2) = 2; appendOutput(0) = 3;" + outputs(value));
        }
        Sentence.description("with width 4 it is the int with these bytes");
        for (int value : VALUES) {
            StringBuilder text = new StringBuilder("declareRecord(16) = 0;");
            for (int step = 0; step < 4; step++) {
                text.append(storeByte(0, 12 + step, value >>> 8 * step & 255));
            }
            Sentence.also(text + "appendLoad(0,0,12,4) = 8; appendOutput(0) = 9;" + outputs(value));
        }
    }

    private static void constant() {
        Sentence.description("puts the value into the register");
        for (int value : VALUES) {
            Sentence.also("appendConstant(0,7) = 0; appendConstant(0," + value + ") = 1; appendOutput(0) = 2; appendOutput(1) = 3;" + outputs(value, 0));
        }
    }

    private static void copy() {
        Sentence.description("copies length bytes from the source record to the destination record");
        for (int length = 1; length <= 14; length++) {
            Sentence.also(copyAmongOnes(length));
        }
        Sentence.also(TWO + storeByte(0, 0, 100) + storeByte(0, 15, 200) + "appendCopy(1,0,0,0,16) = 4;" + showByte(1, 0) + showByte(1, 15) + showByte(1, 7) + outputs(100, 200, 0));
        Sentence.description("If both are the same record, the two ranges have no byte in common.", "declareRecord(16) = 0;"
                + storeByte(0, 7, 9) + "appendCopy(0,8,0,0,8) = 2; appendCopy(0,7,0,0,8) = -1; appendCopy(0,0,0,7,8) = -1; appendCopy(0,8,0,8,1) = -1;"
                + showByte(0, 15) + showByte(0, 8) + outputs(9, 0));
        Sentence.also("declareRecord(2) = 0; appendCopy(0,0,0,0,1) = -1; appendCopy(0,0,0,0,2) = -1; appendCopy(0,1,0,0,2) = -1;" + storeByte(0, 1, 7)
                + "appendCopy(0,0,0,1,1) = 2;" + showByte(0, 0) + outputs(7));
    }

    /** From byte 1 on to byte 1 on; what stands in the destination before and behind the copied bytes stays 255. */
    private static String copyAmongOnes(int length) {
        int behind = length + 1;
        return TWO + storeByte(0, 1, 100) + storeByte(0, length, 200) + storeByte(1, 0, 255) + storeByte(1, length, 99) + storeByte(1, behind, 255)
                + "appendCopy(1,1,0,1," + length + ") = 10;" + showByte(1, 0) + showByte(1, 1) + showByte(1, length) + showByte(1, behind)
                + outputs(255, length == 1 ? 200 : 100, 200, 255);
    }

    private static void escapeSum() {
        Sentence.description("The function replaces the checksum of the run by 31 times the checksum plus the value (0 to 255) of the byte, for each byte of the record in ascending order");
        Sentence.also("declareRecord(3) = 0;" + storeByte(0, 0, 1) + storeByte(0, 1, 2) + storeByte(0, 2, 3) + "appendEscape(0) = 6;" + both("checksum(?)", 1 * 961 + 2 * 31 + 3));
        Sentence.also("declareRecord(1) = 0;" + storeByte(0, 0, 255) + "appendEscape(0) = 2;" + both("checksum(?)", 255));
        Sentence.also("declareRecord(1) = 0;" + storeByte(0, 0, -128) + "appendEscape(0) = 2;" + both("checksum(?)", 128));
        Sentence.also("declareRecord(2) = 0;" + storeByte(0, 0, 0) + "appendEscape(0) = 2; appendEscape(0) = 3;" + both("checksum(?)", 31));
        Sentence.description("(in int arithmetic, which wraps around on overflow)");
        for (int size = 1; size <= 16; size++) {
            Sentence.also("declareRecord(" + size + ") = 0;" + filled(size) + "appendEscape(0); appendEscape(0); appendEscape(0);" + both("checksum(?)", sumOfThree(size)));
        }
        Sentence.description("The checksum is 0 when a run begins.", "checksum(0) = 0; checksum(1) = 0; declareRecord(1) = 0;" + storeByte(0, 0, 7) + "appendEscape(0) = 2;"
                + both("checksum(?)", 7) + both("checksum(?)", 7) + "removeInstruction(2) = 2;" + both("checksum(?)", 0));
    }

    /** All bytes 255, by stores of one byte. */
    private static String filled(int size) {
        StringBuilder text = new StringBuilder("appendConstant(0,-1);");
        for (int offset = 0; offset < size; offset++) {
            text.append("appendStore(0,").append(offset).append(",1,0);");
        }
        return text.toString();
    }

    /** The checksum of three ESCAPEs in numbers without an end; byte 0 is 255, then 0, then 1. */
    private static int sumOfThree(int size) {
        BigInteger sum = BigInteger.ZERO;
        for (int first : new int[] {255, 0, 1}) {
            for (int offset = 0; offset < size; offset++) {
                sum = sum.multiply(BigInteger.valueOf(31)).add(BigInteger.valueOf(offset == 0 ? first : 255));
            }
        }
        return sum.intValue();
    }

    private static void escapeByte() {
        Sentence.description("then it adds 1 to byte 0 of the record (255 becomes 0)");
        for (int value : new int[] {0, 1, 127, 128, 254, 255}) {
            Sentence.also("declareRecord(1) = 0;" + storeByte(0, 0, value) + "appendEscape(0) = 2;" + showByte(0, 0) + outputs(value == 255 ? 0 : value + 1) + both("checksum(?)", value));
            Sentence.also("declareRecord(16) = 0; appendConstant(0,-1) = 0; appendStore(0,1,1,0) = 1; appendStore(0,2,1,7) = 2; appendStore(0,15,1,0) = 3;" + storeByte(0, 0, value)
                    + "appendEscape(0) = 6;" + showByte(0, 0) + showByte(0, 1) + showByte(0, 2) + showByte(0, 15) + outputs(value == 255 ? 0 : value + 1, 255, 0, 255));
        }
        Sentence.also(TWO + storeByte(1, 0, 255) + "appendEscape(0) = 2;" + showByte(0, 0) + showByte(1, 0) + outputs(1, 255));
    }

    private static void add() {
        Sentence.description("puts the sum of the registers first and second into the register", "appendConstant(0,MAX) = 0; appendConstant(1,MIN) = 1; appendAdd(2,0,1) = 2; appendAdd(0,0,2) = 3;"
                + "appendAdd(7,0,7) = 4; appendOutput(2) = 5; appendOutput(0) = 6; appendOutput(1) = 7; appendOutput(7) = 8;"
                + outputs(-1, Integer.MAX_VALUE - 1, Integer.MIN_VALUE, Integer.MAX_VALUE - 1));
        Sentence.description("If the sum is not an int, the instruction traps");
        for (int first : VALUES) {
            for (int second : VALUES) {
                long sum = (long) first + second;
                boolean fits = sum >= Integer.MIN_VALUE && sum <= Integer.MAX_VALUE;
                Sentence.also("appendConstant(0," + first + ") = 0; appendConstant(1," + second + ") = 1; appendAdd(2,0,1) = 2; appendOutput(2) = 3;"
                        + "trapPosition() = " + (fits ? -9 : 2) + ";" + (fits ? outputs((int) sum) : outputs()));
            }
        }
        Sentence.description("the run ends, and the register keeps its value", "declareRecord(1) = 0; appendConstant(0,MAX) = 0; appendOutput(0) = 1; appendAdd(0,0,0) = 2; appendOutput(0) = 3;"
                + "appendEscape(0) = 4; appendStore(0,0,1,0) = 5; appendAdd(0,0,0) = 6; trapPosition() = 2;" + outputs(Integer.MAX_VALUE) + both("cost(?)", 0) + both("checksum(?)", 0));
        Sentence.also("appendConstant(0,MIN) = 0; appendAdd(1,0,0) = 1; appendOutput(1) = 2;" + outputs() + "removeInstruction(1) = 2;" + outputs(0));
    }

    private static void skip() {
        Sentence.description("if the register holds 0, the next count instructions are not executed");
        for (int count = 1; count <= 9; count++) {
            StringBuilder text = new StringBuilder("appendSkip(7," + count + ") = 0;");
            for (int value = 1; value <= 11; value++) {
                text.append("appendConstant(0,").append(value).append("); appendOutput(0);");
            }
            // The instruction behind the skipped ones is executed: an odd count leaves an OUTPUT of the 0, an even one a CONSTANT.
            int kept = 11 - count / 2;
            Sentence.also(text + both("outputCount(?)", kept) + both("outputAt(?,0)", count % 2 == 1 ? 0 : count / 2 + 1) + both("outputAt(?," + (kept - 1) + ")", 11));
        }
        for (int value : VALUES) {
            Sentence.also("appendConstant(3," + value + ") = 0; appendSkip(3,1) = 1; appendOutput(3) = 2;" + (value == 0 ? outputs() : outputs(value)));
        }
        Sentence.also("appendSkip(0,1) = 0; appendSkip(0,9) = 1; appendOutput(0) = 2;" + outputs(0));
        Sentence.description("(or all that follow, if there are fewer)", "appendSkip(0,9) = 0;" + outputs() + "trapPosition() = -9; appendOutput(0) = 1;" + outputs());
        for (int following = 0; following <= 10; following++) {
            Sentence.also("appendSkip(0,9) = 0;" + BuildingBoundaries.outputs(following) + (following == 10 ? outputs(0) : outputs()));
            int before = 23 - following;
            Sentence.also(BuildingBoundaries.outputs(before) + "appendSkip(0,9) = " + before + ";" + BuildingBoundaries.outputs(following)
                    + "instructionCount() = 24;" + both("outputCount(?)", following == 10 ? before + 1 : before));
        }
    }

    private static void output() {
        Sentence.description("appends the value of the register to the output list of the run", outputs() + "appendConstant(0,MIN) = 0; appendOutput(0) = 1; appendOutput(0) = 2; appendOutput(1) = 3;"
                + outputs(Integer.MIN_VALUE, Integer.MIN_VALUE, 0));
        Sentence.also(BuildingBoundaries.outputs(24) + both("outputCount(?)", 24) + both("outputCount(?)", 24));
    }

    // ---- whole runs

    private static void wholeRun() {
        Sentence.description("A run executes the instructions in ascending order, each at most once, and ends behind the last one or at a trap.",
                "trapPosition() = -9;" + outputs() + both("cost(?)", 0) + both("checksum(?)", 0));
        StringBuilder text = new StringBuilder("appendConstant(1,1);");
        for (int number = 1; number <= 11; number++) {
            text.append("appendAdd(0,0,1); appendOutput(0);");
        }
        Sentence.also(text + "appendOutput(0) = 23;" + outputs(1, 2, 3, 4, 5, 6, 7, 8, 9, 10, 11, 11) + outputs(1, 2, 3, 4, 5, 6, 7, 8, 9, 10, 11, 11));
        Sentence.also("appendConstant(0,MAX);" + BuildingBoundaries.outputs(22) + "appendAdd(0,0,0) = 23; trapPosition() = 23;" + both("outputCount(?)", 22));
    }

    private static void transformed() {
        Sentence.description("STORE instructions to a partition that is not live, and pieces whose destination partition is not live, do nothing.",
                TWO + "appendStore(0,0,4,0) = 0; appendCopy(1,0,0,0,16) = 1; cost(1) = 0; cost(0) = 17; liveBytes() = 0; appendLoad(0,1,15,1) = 2; cost(1) = 1; liveBytes() = 13");
        Sentence.description("Everything else is executed as in the original program, so both programs have the same outputs, checksums and traps.",
                TWO + "appendConstant(0,MIN) = 0; appendStore(0,0,4,0) = 1; appendStore(0,4,4,0) = 2; appendCopy(1,8,0,0,8) = 3; appendLoad(1,1,8,4) = 4; appendLoad(2,1,15,1) = 5;"
                + "appendOutput(1) = 6; appendOutput(2) = 7; appendEscape(1) = 8; appendAdd(0,1,1) = 9; appendOutput(0) = 10; trapPosition() = 9;"
                + outputs(Integer.MIN_VALUE, 128) + both("checksum(?)", 128 * 923521 + 128));
    }

    private static void costs() {
        Sentence.description("The cost of a run is the sum of the costs of its executed instructions.", "cost(0) = 0; cost(1) = 0;" + TWO
                + "appendSkip(0,4) = 0; appendStore(0,0,4,0) = 1; appendLoad(1,0,0,2) = 2; appendCopy(1,0,0,0,16) = 3; appendEscape(1) = 4;" + both("cost(?)", 0)
                + "removeInstruction(0) = 4;" + both("cost(?)", 34) + "appendConstant(0,MIN) = 4; appendAdd(0,0,0) = 5; appendEscape(1) = 6;" + both("cost(?)", 34));
        Sentence.description("In the original program a STORE or LOAD costs 1, a COPY costs its length, an ESCAPE costs the size of its record, and the other instructions cost 0.");
        for (int size = 1; size <= 16; size++) {
            Sentence.also("declareRecord(" + size + ") = 0; declareRecord(16) = 1; appendEscape(0) = 0; cost(0) = " + size + "; appendCopy(1,0,0,0," + size + ") = 1; cost(0) = " + 2 * size
                    + "; appendStore(0,0,1,0) = 2; cost(0) = " + (2 * size + 1) + "; appendLoad(0,0,0,1) = 3; cost(0) = " + (2 * size + 2));
        }
        Sentence.also("declareRecord(16) = 0; appendStore(0,0,1,0) = 0; appendStore(0,0,2,0) = 1; appendStore(0,0,4,0) = 2; cost(0) = 3; appendLoad(0,0,0,1) = 3; appendLoad(0,0,0,2) = 4;"
                + "appendLoad(0,0,0,4) = 5; cost(0) = 6; appendConstant(1,1) = 6; appendAdd(1,1,1) = 7; appendSkip(1,1) = 8; appendOutput(1) = 9; cost(0) = 6");
        Sentence.also(TWO + "appendCopy(1,0,0,0,16);".repeat(24) + "cost(0) = 384; cost(1) = 0");
        Sentence.also(TWO + "appendCopy(1,0,0,0,16);".repeat(22) + "appendEscape(0); appendEscape(1);" + both("cost(?)", 384));
        Sentence.description("In the transformed program a STORE or LOAD costs 0 if its partition is promotable or not live, otherwise 1.", "declareRecord(16) = 0;"
                + "appendStore(0,0,4,0) = 0; cost(1) = 0; appendStore(0,1,1,0) = 1; cost(1) = 0; appendLoad(0,0,4,4) = 2; cost(1) = 0; appendLoad(0,0,3,1) = 3; cost(1) = 3;"
                + "removeInstruction(1) = 3; removeInstruction(2) = 2; appendLoad(0,0,0,4) = 2; cost(1) = 0; appendEscape(0) = 3; cost(1) = 19");
        pieceCosts();
    }

    private static void pieceCosts() {
        Sentence.description("A COPY costs the sum of the costs of its pieces.", TWO + "appendCopy(1,0,0,0,16) = 0; appendStore(0,4,4,0) = 1; appendEscape(1) = 2;"
                + "pieceCount(0) = 3; isPromotable(0,0) = 1; isPromotable(0,1) = 1; isPromotable(0,2) = 0; cost(1) = 26; removeInstruction(2) = 2; cost(1) = 0");
        Sentence.description("A piece costs 0 if its destination partition is not live");
        for (int length = 1; length <= 16; length++) {
            Sentence.also(TWO + "appendCopy(1,0,0,0," + length + ") = 0; cost(1) = 0; appendLoad(0,0,0,1) = 1; cost(1) = 0;"
                    + "appendEscape(0) = 2; cost(1) = 17; isLive(1,0) = 0");
        }
        Sentence.description("otherwise it costs 0 if both of its partitions are promotable, 1 if exactly one of them is, and its length if neither is");
        for (int width : new int[] {1, 2, 4}) {
            String copy = TWO + "appendCopy(1,0,0,0," + width + ") = 0; appendLoad(0,1,0," + width + ") = 1; isPromotable(1,0) = 1; cost(1) = 0;";
            Sentence.also(copy + "appendEscape(0) = 2; cost(1) = 17; appendEscape(1) = 3; cost(1) = " + (33 + width));
            Sentence.also(copy + "appendEscape(1) = 2; isPromotable(0,0) = 1; cost(1) = 18");
        }
        for (int length = 1; length <= 16; length++) {
            Sentence.also(TWO + "appendCopy(1,0,0,0," + length + ") = 0; appendEscape(1) = 1; appendEscape(0) = 2; cost(1) = " + (32 + length));
            boolean scalar = length == 1 || length == 2 || length == 4;
            Sentence.also(TWO + "appendCopy(1,0,0,0," + length + ") = 0; appendEscape(1) = 1; cost(1) = " + (scalar ? 17 : 16 + length));
        }
        Sentence.description("An ESCAPE costs the size of its record, and the other instructions cost 0.");
        for (int size = 1; size <= 16; size++) {
            Sentence.also("declareRecord(" + size + ") = 0; appendEscape(0) = 0; cost(1) = " + size + "; appendConstant(0,1) = 1; appendAdd(0,0,0) = 2; appendSkip(0,1) = 3; appendOutput(0) = 4; cost(1) = "
                    + size + "; appendEscape(0) = 5; cost(1) = " + 2 * size);
        }
    }

    // ---- promises 26 to 30

    private static void trapPosition() {
        Sentence.promise(26, "Returns the number of the instruction that traps in a run");
        for (int place = 1; place < 24; place++) {
            String text = "appendConstant(0,MAX) = 0;" + BuildingBoundaries.outputs(place - 1) + "appendAdd(0,0,0) = " + place + ";" + BuildingBoundaries.outputs(23 - place);
            Sentence.also(text + "trapPosition() = " + place + ";" + both("outputCount(?)", place - 1) + "removeInstruction(" + place + ") = 23; trapPosition() = -9;");
        }
        Sentence.also("appendConstant(0,MIN) = 0; appendAdd(1,0,0) = 1; appendAdd(1,0,0) = 2; trapPosition() = 1; removeInstruction(1) = 2; trapPosition() = 1");
        Sentence.promise(26, "NONE if the run does not trap", "trapPosition() = -9; appendAdd(0,0,0) = 0; trapPosition() = -9; appendConstant(0,MAX) = 1; appendSkip(1,1) = 2; appendAdd(0,0,0) = 3;"
                + "trapPosition() = -9; appendAdd(1,0,2) = 4; trapPosition() = -9; appendConstant(2,MIN) = 5; appendAdd(0,0,2) = 6; trapPosition() = -9");
    }

    /** The question with the form's number in place of the ?: 0 and 1 answer what is due, all others the error. */
    private static String forms(String question, int due, int error) {
        StringBuilder text = new StringBuilder(both(question, due));
        for (String form : NO_FORMS.split(" ")) {
            text.append(question.replace("?", form)).append(" = ").append(error).append(';');
        }
        return text + both(question, due);
    }

    private static void outputCount() {
        Sentence.promise(27, FORM, BuildingBoundaries.outputs(3) + forms("outputCount(?)", 3, -1));
        Sentence.promise(27, "Returns the number of outputs of its run");
        for (int count = 0; count <= 24; count++) {
            Sentence.also(BuildingBoundaries.outputs(count) + both("outputCount(?)", count));
        }
        Sentence.also(BuildingBoundaries.outputs(1) + "appendSkip(0,1) = 1;" + BuildingBoundaries.outputs(2) + both("outputCount(?)", 2));
        Sentence.promise(27, "INVALID_ARGUMENT if the argument is out of range.", forms("outputCount(?)", 0, -1));
    }

    private static void outputAt() {
        String two = "appendConstant(0,5) = 0; appendOutput(0) = 1; appendConstant(0,-1) = 2; appendOutput(0) = 3;";
        Sentence.promise(28, FORM, two + forms("outputAt(?,0)", 5, 0));
        Sentence.promise(28, "`index`: the 0-based number of an output");
        for (int count = 0; count <= 24; count++) {
            outputsOfCount(count);
        }
        Sentence.promise(28, "Returns this output of its run", two + outputs(5, -1) + "outputAt(0,1) = -1; outputAt(0,0) = 5; outputAt(1,1) = -1; outputAt(1,0) = 5");
        Sentence.promise(28, "0 if there is no such output", "appendConstant(0,5) = 0;" + both("outputAt(?,0)", 0) + "appendOutput(0) = 1;" + both("outputAt(?,0)", 5)
                + both("outputAt(?,1)", 0) + both("outputAt(?,-1)", 0) + both("outputAt(?,23)", 0) + both("outputAt(?,24)", 0) + both("outputAt(?,256)", 0) + both("outputAt(?,65536)", 0)
                + both("outputAt(?,MIN)", 0) + both("outputAt(?,MAX)", 0) + "appendOutput(0) = 2; outputAt(0,1) = 5; undo() = 2;" + both("outputAt(?,1)", 0));
        Sentence.promise(28, "or if the first argument is out of range (outputCount tells how many outputs there are)", two + forms("outputAt(?,1)", -1, 0)
                + "outputAt(-1,-1) = 0; outputAt(2,2) = 0; outputAt(MIN,MIN) = 0; outputAt(MAX,MAX) = 0;");
    }

    private static void outputsOfCount(int count) {
        StringBuilder text = new StringBuilder();
        boolean full = count > 12;
        for (int index = 0; index < count; index++) {
            // Above 12 outputs there is no room for a CONSTANT before each of them.
            text.append(full ? "appendOutput(1);" : "appendConstant(0," + (50 + index) + "); appendOutput(0);");
        }
        for (int index = 0; index <= 24; index++) {
            text.append(both("outputAt(?," + index + ")", index < count && !full ? 50 + index : 0));
        }
        Sentence.also(text.toString());
    }

    private static void checksum() {
        String seven = "declareRecord(1) = 0;" + storeByte(0, 0, 7) + "appendEscape(0) = 2;";
        Sentence.promise(29, FORM, seven + forms("checksum(?)", 7, 0));
        Sentence.promise(29, "Returns the checksum at the end of its run", both("checksum(?)", 0) + seven + both("checksum(?)", 7) + "appendEscape(0) = 3;" + both("checksum(?)", 225)
                + "appendConstant(0,MIN) = 4; appendAdd(0,0,0) = 5; appendEscape(0) = 6;" + both("checksum(?)", 225) + "removeInstruction(5) = 6;" + both("checksum(?)", 225 * 31 + 9));
        Sentence.promise(29, "0 if the argument is out of range", seven + "checksum(-1) = 0; checksum(2) = 0; checksum(3) = 0; checksum(MIN) = 0; checksum(MAX) = 0; checksum(0) = 7; checksum(1) = 7");
    }

    private static void cost() {
        String costly = "declareRecord(16) = 0; appendStore(0,0,4,0) = 0;";
        Sentence.promise(30, FORM, costly + "cost(0) = 1; cost(1) = 0; appendEscape(0) = 1;" + forms("cost(?)", 17, -1));
        Sentence.promise(30, "Returns the cost of its run", both("cost(?)", 0) + costly + "cost(0) = 1; cost(1) = 0; appendLoad(0,0,0,4) = 1; cost(0) = 2; cost(1) = 0; appendLoad(0,0,3,1) = 2;"
                + "cost(0) = 3; cost(1) = 3; undo() = 3; cost(0) = 2; cost(1) = 0");
        Sentence.promise(30, "INVALID_ARGUMENT if the argument is out of range.", forms("cost(?)", 0, -1) + costly + "cost(-1) = -1; cost(2) = -1; cost(MIN) = -1; cost(MAX) = -1; cost(0) = 1; cost(1) = 0");
    }
}
