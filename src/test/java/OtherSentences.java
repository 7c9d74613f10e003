import java.util.ArrayList;
import java.util.BitSet;
import java.util.Comparator;
import java.util.List;

/** The sentences of the document that name no boundary case: what there is, and what each instruction and each edit is. */
final class OtherSentences {
    private static final String TWO = "declareRecord(16) = 0; declareRecord(16) = 1;";
    private static final String FOUR = TWO + "declareRecord(16) = 2; declareRecord(16) = 3;";

    private OtherSentences() {
    }

    static void hold() {
        whatItIs();
        heads();
        accesses();
        pieces();
        transformedProgram();
        examples();
        appends();
        otherEdits();
    }

    private static void whatItIs() {
        Sentence.whatItIs("Scalar replacement of aggregates: an optimizer pass that splits the byte records of a small program into partitions, promotes partitions to scalar variables,"
                + " cuts copies into pieces, removes dead partitions, and runs the program in its original and in its transformed form.");
        Sentence.also("declareRecord(8) = 0; declareRecord(8) = 1; appendConstant(0,258) = 0; appendStore(0,0,4,0) = 1; appendCopy(1,0,0,0,8) = 2; appendLoad(1,1,0,4) = 3; appendOutput(1) = 4;"
                + "partitionCount(0) = 2; partitionCount(1) = 2; scalarCount() = 2; pieceCount(2) = 2; isLive(0,1) = 0; isLive(1,1) = 0; liveBytes() = 8;"
                + "outputAt(0,0) = 258; outputAt(1,0) = 258; cost(0) = 10; cost(1) = 0");
    }

    /** The arguments of an instruction are all different, so that two in each other's place are seen. */
    private static void heads() {
        String five = "appendConstant(5,-2) = 0;";
        Sentence.description("STORE record offset width register", FOUR + five + "appendStore(3,1,2,5) = 1; partitionCount(3) = 1; partitionStart(3,0) = 1; partitionLength(3,0) = 2;"
                + "partitionCount(0) = 0; partitionCount(1) = 0; partitionCount(2) = 0; appendLoad(0,3,0,4) = 2; appendOutput(0) = 3; outputAt(0,0) = 16776704; outputAt(1,0) = 16776704");
        Sentence.description("LOAD register record offset width", FOUR + five + "appendStore(3,1,4,5) = 1; appendLoad(0,3,1,2) = 2; appendOutput(0) = 3; appendOutput(3) = 4;"
                + "outputAt(0,0) = 65534; outputAt(1,0) = 65534; outputAt(0,1) = 0; partitionCount(3) = 1; partitionCount(0) = 0; undo() = 7; undo() = 6; undo() = 5; undo() = 4;"
                + "appendLoad(0,3,1,2) = 1; partitionStart(3,0) = 1; partitionLength(3,0) = 2");
        Sentence.description("and puts the number that they form into the register", "declareRecord(4) = 0; appendConstant(0,-1) = 0; appendConstant(1,513) = 1; appendStore(0,0,2,1) = 2;"
                + "appendLoad(0,0,0,1) = 3; appendOutput(0) = 4; appendLoad(0,0,1,1) = 5; appendOutput(0) = 6; appendLoad(0,0,0,2) = 7; appendOutput(0) = 8; appendLoad(0,0,0,4) = 9; appendOutput(0) = 10;"
                + "appendOutput(1) = 11; outputAt(0,0) = 1; outputAt(0,1) = 2; outputAt(0,2) = 513; outputAt(0,3) = 513; outputAt(0,4) = 513; outputAt(1,0) = 1; outputAt(1,1) = 2; outputAt(1,3) = 513");
        Sentence.description("COPY destination destinationOffset source sourceOffset length", FOUR + "appendCopy(3,6,2,9,5) = 0; partitionStart(3,0) = 6; partitionLength(3,0) = 5;"
                + "partitionStart(2,0) = 9; partitionLength(2,0) = 5; appendLoad(0,2,9,1) = 1; isLive(3,0) = 0; appendLoad(0,3,6,1) = 2; isLive(3,0) = 1; cost(0) = 7");
        Sentence.also(FOUR + five + "appendStore(2,9,2,5) = 1; appendCopy(3,6,2,9,5) = 2; appendLoad(0,3,6,4) = 3; appendOutput(0) = 4; outputAt(0,0) = 65534; outputAt(1,0) = 65534");
        Sentence.description("ESCAPE record: passes the record to an external function.", FOUR + five + "appendStore(1,15,1,5) = 1; appendStore(2,15,1,0) = 2; appendEscape(1) = 3;"
                + "escapes(0) = 0; escapes(1) = 1; escapes(2) = 0; escapes(3) = 0; checksum(0) = 254; checksum(1) = 254; appendLoad(0,1,0,1) = 4; appendLoad(1,2,0,1) = 5;"
                + "appendOutput(0) = 6; appendOutput(1) = 7; outputAt(0,0) = 1; outputAt(0,1) = 0; outputAt(1,0) = 1; outputAt(1,1) = 0; outputCount(0) = 2; trapPosition() = -9");
        headsOfRegisters();
    }

    private static void headsOfRegisters() {
        Sentence.description("CONSTANT register value", "appendConstant(2,3) = 0; appendOutput(2) = 1; appendOutput(3) = 2; outputAt(0,0) = 3; outputAt(0,1) = 0; outputAt(1,0) = 3; outputAt(1,1) = 0");
        Sentence.description("ADD register first second", "appendConstant(1,10) = 0; appendConstant(2,20) = 1; appendConstant(3,40) = 2; appendAdd(1,2,3) = 3; appendOutput(1) = 4; appendOutput(2) = 5;"
                + "appendOutput(3) = 6; outputAt(0,0) = 60; outputAt(0,1) = 20; outputAt(0,2) = 40; outputAt(1,0) = 60; outputAt(1,1) = 20; outputAt(1,2) = 40");
        Sentence.description("SKIP register count", "appendConstant(2,1) = 0; appendSkip(2,1) = 1; appendOutput(0) = 2; outputCount(0) = 1; appendSkip(1,2) = 3; appendOutput(0) = 4; appendOutput(0) = 5;"
                + "appendOutput(0) = 6; outputCount(0) = 2; outputCount(1) = 2");
        Sentence.description("OUTPUT register", "appendConstant(6,-6) = 0; appendOutput(6) = 1; appendOutput(5) = 2; outputCount(0) = 2; outputAt(0,0) = -6; outputAt(0,1) = 0; outputAt(1,0) = -6; outputAt(1,1) = 0");
    }

    private static void accesses() {
        Sentence.description("For a record that does not escape", FOUR + "appendCopy(1,0,0,0,8) = 0; appendStore(0,0,2,0) = 1; appendStore(1,4,2,0) = 2; appendEscape(2) = 3;"
                + "partitionCount(0) = 2; partitionCount(1) = 3; partitionCount(2) = 1; partitionCount(3) = 0; appendEscape(1) = 4; partitionCount(0) = 2; partitionCount(1) = 1;"
                + "removeInstruction(4) = 4; partitionCount(0) = 2; partitionCount(1) = 3");
        Sentence.description("The accesses are the byte ranges of the LOAD and STORE instructions.");
        for (int width : new int[] {1, 2, 4}) {
            for (int offset = 0; offset + width <= 16; offset++) {
                String due = "partitionCount(0) = 1; partitionStart(0,0) = " + offset + "; partitionLength(0,0) = " + width + "; isPromotable(0,0) = 1; paddingBytes(0) = " + (16 - width);
                Sentence.also("declareRecord(16) = 0; appendStore(0," + offset + "," + width + ",7) = 0;" + due);
                Sentence.also("declareRecord(16) = 0; appendLoad(7,0," + offset + "," + width + ") = 0;" + due);
            }
        }
        Sentence.also("declareRecord(16) = 0; appendConstant(0,1) = 0; appendAdd(1,0,0) = 1; appendSkip(1,4) = 2; appendOutput(1) = 3; partitionCount(0) = 0; paddingBytes(0) = 16");
        Sentence.description("The bytes of accesses that belong together form one hard partition.");
        int[] all = accessesOfSixBytes();
        for (int first : all) {
            for (int second : all) {
                for (int third : all) {
                    threeAccesses(first, second, third);
                }
            }
        }
    }

    /** Each is ten times its offset plus its width. */
    private static int[] accessesOfSixBytes() {
        return new int[] {1, 11, 21, 31, 41, 51, 2, 12, 22, 32, 42, 4, 14, 24};
    }

    private static void threeAccesses(int... accesses) {
        StringBuilder text = new StringBuilder("declareRecord(6);");
        List<BitSet> partitions = new ArrayList<>();
        for (int access : accesses) {
            int offset = access / 10;
            int width = access % 10;
            text.append("appendStore(0,").append(offset).append(',').append(width).append(",0);");
            BitSet bytes = new BitSet();
            bytes.set(offset, offset + width);
            putTogether(partitions, bytes);
        }
        partitions.sort(Comparator.comparing(bytes -> bytes.nextSetBit(0)));
        for (int number = 0; number < partitions.size(); number++) {
            BitSet bytes = partitions.get(number);
            text.append("partitionStart(0,").append(number).append(") = ").append(bytes.nextSetBit(0)).append(';');
            text.append("partitionLength(0,").append(number).append(") = ").append(bytes.cardinality()).append(';');
        }
        Sentence.also(text + "partitionCount(0) = " + partitions.size());
    }

    /** The bytes swallow all partitions that they have a byte in common with. */
    private static void putTogether(List<BitSet> partitions, BitSet bytes) {
        for (int number = partitions.size() - 1; number >= 0; number--) {
            if (partitions.get(number).intersects(bytes)) {
                bytes.or(partitions.remove(number));
                number = partitions.size();
            }
        }
        partitions.add(bytes);
    }

    private static void pieces() {
        Sentence.description("Each COPY instruction is cut into pieces.", TWO + "appendCopy(1,0,0,0,8) = 0; appendCopy(1,12,0,2,4) = 1; appendCopy(0,15,1,12,1) = 2; appendOutput(0) = 3;"
                + "pieceCount(0) = 3; pieceLength(0,0) = 2; pieceLength(0,1) = 4; pieceLength(0,2) = 2; pieceCount(1) = 2; pieceLength(1,0) = 1; pieceLength(1,1) = 3;"
                + "pieceCount(2) = 1; pieceLength(2,0) = 1; pieceCount(3) = -1");
        for (int length = 1; length <= 16; length++) {
            Sentence.also(TWO + "appendCopy(1,0,0,0," + length + ") = 0; pieceCount(0) = 1; pieceLength(0,0) = " + length + "; pieceLength(0,1) = -1");
        }
    }

    private static void transformedProgram() {
        Sentence.description("In the transformed program each live promotable partition is a scalar variable, and each other live partition is a byte record of its own.");
        // Bytes 0 to 3 are a record, 4 to 7 a scalar, and 8 to 11 a record: none of them reaches into its neighbour.
        Sentence.also("declareRecord(12) = 0; appendConstant(0,-1) = 0; appendStore(0,0,4,0) = 1; appendStore(0,4,4,7) = 2; appendStore(0,8,4,0) = 3; appendStore(0,0,1,7) = 4; appendLoad(1,0,0,4) = 5;"
                + "appendLoad(2,0,4,4) = 6; appendLoad(3,0,10,2) = 7; appendOutput(1) = 8; appendOutput(2) = 9; appendOutput(3) = 10; partitionCount(0) = 3; scalarCount() = 1; liveBytes() = 12;"
                + "isPromotable(0,0) = 0; isPromotable(0,1) = 1; isPromotable(0,2) = 0; outputAt(0,0) = -256; outputAt(0,1) = 0; outputAt(0,2) = 65535;"
                + "outputAt(1,0) = -256; outputAt(1,1) = 0; outputAt(1,2) = 65535; cost(0) = 7; cost(1) = 5");
        Sentence.description("Partitions that are not live, and padding, do not exist.", TWO + "appendStore(0,0,4,0) = 0; appendStore(0,4,4,0) = 1; appendCopy(1,0,0,0,8) = 2; appendLoad(1,1,4,4) = 3;"
                + "liveBytes() = 8; scalarCount() = 2; paddingBytes(0) = 8; cost(0) = 11; cost(1) = 0; removeInstruction(3) = 3; liveBytes() = 0; scalarCount() = 0; paddingBytes(0) = 8; cost(0) = 10; cost(1) = 0");
        // The dead lower half is neither written nor copied, and the upper half is right all the same.
        Sentence.also(TWO + "appendConstant(0,77) = 0; appendStore(0,0,4,0) = 1; appendStore(0,2,1,0) = 2; appendStore(0,4,4,0) = 3; appendCopy(1,0,0,0,8) = 4; appendLoad(1,1,4,4) = 5; appendOutput(1) = 6;"
                + "isLive(0,0) = 0; isLive(0,1) = 1; liveBytes() = 8; outputAt(0,0) = 77; outputAt(1,0) = 77; cost(0) = 12; cost(1) = 0");
    }

    private static void examples() {
        Sentence.description("Examples: Each of them begins with a new object; the results are given behind the calls.");
        Script.same("examples", ExamplesTest.CALLS.length, 4);
        for (int number = 0; number < ExamplesTest.CALLS.length; number++) {
            Sentence.description((number + 1) + ". " + ExamplesTest.TITLES[number] + ": " + ExamplesTest.CALLS[number] + ".", ExamplesTest.CALLS[number]);
        }
    }

    /** What is appended stands behind all that was there, and is of its kind. */
    private static void appends() {
        Sentence.promise(3, "Appends a STORE instruction.", "declareRecord(1) = 0; appendConstant(0,9) = 0; appendEscape(0) = 1; appendStore(0,0,1,0) = 2; checksum(0) = 0; appendEscape(0) = 3;"
                + "instructionCount() = 4; checksum(0) = 9; checksum(1) = 9; cost(0) = 3; isLive(0,0) = 1; pieceCount(2) = -1");
        Sentence.promise(4, "Appends a LOAD instruction.", "declareRecord(1) = 0; appendConstant(0,9) = 0; appendStore(0,0,1,0) = 1; appendOutput(1) = 2; appendLoad(1,0,0,1) = 3; outputAt(0,0) = 0;"
                + "appendOutput(1) = 4; instructionCount() = 5; outputAt(0,0) = 0; outputAt(0,1) = 9; outputAt(1,1) = 9; isLive(0,0) = 1; cost(0) = 2; pieceCount(3) = -1");
        Sentence.promise(5, "Appends a COPY instruction.", "declareRecord(1) = 0; declareRecord(1) = 1; appendConstant(0,9) = 0; appendStore(0,0,1,0) = 1; appendEscape(1) = 2; appendCopy(1,0,0,0,1) = 3;"
                + "checksum(0) = 0; appendEscape(1) = 4; instructionCount() = 5; checksum(0) = 9; checksum(1) = 9; cost(0) = 4; cost(1) = 3; pieceCount(3) = 1; pieceCount(2) = -1; pieceCount(4) = -1");
        Sentence.promise(6, "Appends an ESCAPE instruction.", "declareRecord(1) = 0; appendConstant(0,9) = 0; appendStore(0,0,1,0) = 1; checksum(0) = 0; appendEscape(0) = 2; instructionCount() = 3;"
                + "checksum(0) = 9; checksum(1) = 9; escapes(0) = 1; cost(0) = 2; pieceCount(2) = -1");
        Sentence.promise(7, "Appends a CONSTANT instruction.", "appendConstant(0,9) = 0; appendOutput(0) = 1; appendConstant(0,8) = 2; outputAt(0,0) = 9; appendOutput(0) = 3; instructionCount() = 4;"
                + "outputAt(0,0) = 9; outputAt(0,1) = 8; outputAt(1,1) = 8; cost(0) = 0; pieceCount(2) = -1");
        Sentence.promise(8, "Appends an ADD instruction.", "appendConstant(0,9) = 0; appendOutput(0) = 1; appendAdd(0,0,0) = 2; outputAt(0,0) = 9; appendOutput(0) = 3; instructionCount() = 4;"
                + "outputAt(0,0) = 9; outputAt(0,1) = 18; outputAt(1,1) = 18; cost(0) = 0; pieceCount(2) = -1");
        Sentence.promise(9, "Appends a SKIP instruction.", "appendOutput(0) = 0; appendSkip(0,1) = 1; outputCount(0) = 1; appendOutput(0) = 2; outputCount(0) = 1; appendOutput(0) = 3; instructionCount() = 4;"
                + "outputCount(0) = 2; outputCount(1) = 2; cost(0) = 0; pieceCount(1) = -1");
        Sentence.promise(10, "Appends an OUTPUT instruction.", "appendConstant(0,9) = 0; outputCount(0) = 0; appendOutput(0) = 1; instructionCount() = 2; outputCount(0) = 1; outputAt(0,0) = 9;"
                + "appendConstant(0,8) = 2; outputAt(0,0) = 9; outputCount(1) = 1; outputAt(1,0) = 9; cost(0) = 0; pieceCount(1) = -1");
    }

    private static void otherEdits() {
        Sentence.promise(2, "Declares a record.", "declareRecord(5) = 0; recordCount() = 1; instructionCount() = 0; paddingBytes(0) = 5; partitionCount(0) = 0; escapes(0) = 0; liveBytes() = 0;"
                + "declareRecord(7) = 1; recordCount() = 2; paddingBytes(0) = 5; paddingBytes(1) = 7; appendStore(1,6,1,0) = 0; appendStore(0,5,1,0) = -1");
        Sentence.promise(11, "Removes an instruction.");
        for (int place = 0; place < 5; place++) {
            StringBuilder due = new StringBuilder();
            for (int index = 0; index < 4; index++) {
                int register = index < place ? index : index + 1;
                due.append("outputAt(0,").append(index).append(") = ").append(register + 50).append(';');
                due.append("outputAt(1,").append(index).append(") = ").append(register + 50).append(';');
            }
            Sentence.also("appendConstant(0,50); appendConstant(1,51); appendConstant(2,52); appendConstant(3,53); appendConstant(4,54);"
                    + "appendOutput(0); appendOutput(1); appendOutput(2); appendOutput(3); appendOutput(4); removeInstruction(" + (place + 5) + ") = 9;"
                    + "instructionCount() = 9; outputCount(0) = 4; outputCount(1) = 4;" + due);
        }
    }
}
