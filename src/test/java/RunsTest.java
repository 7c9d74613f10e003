/** Promises 26 to 30: traps, outputs, checksums and costs of both forms. */
public final class RunsTest {
    public static void main(String[] args) {
        wrongArguments();
        traps();
        bytesOfAccesses();
        skips();
        outputs();
        checksums();
        costs();
        Script.end("RunsTest");
    }

    private static void wrongArguments() {
        StringBuilder text = new StringBuilder("declareRecord(1) = 0; appendConstant(0,6) = 0; appendOutput(0) = 1;"
                + "appendStore(0,0,1,0) = 2; appendEscape(0) = 3;");
        for (String wrong : new String[] {"-1", "2", "-2147483648", "2147483647"}) {
            text.append("outputCount(").append(wrong).append(") = -1; cost(").append(wrong).append(") = -1;");
            text.append("checksum(").append(wrong).append(") = 0; outputAt(").append(wrong).append(",0) = 0;");
            text.append("outputAt(0,").append(wrong).append(") = 0; outputAt(1,").append(wrong).append(") = 0;");
        }
        Script.run("wrong arguments", text + """
            outputCount(0) = 1; outputCount(1) = 1; outputAt(0,0) = 6; outputAt(1,0) = 6; outputAt(0,1) = 0; outputAt(1,1) = 0
            checksum(0) = 6; checksum(1) = 6; cost(0) = 2; cost(1) = 2
            """);
    }

    private static void traps() {
        Script.run("promise 26, above and below", """
            appendConstant(0,2147483647) = 0; appendConstant(1,1) = 1; appendConstant(2,-2147483648) = 2; appendConstant(3,-1) = 3
            appendAdd(4,0,2) = 4; appendOutput(4) = 5; appendAdd(4,0,3) = 6; appendOutput(4) = 7; appendAdd(4,2,1) = 8; appendOutput(4) = 9
            trapPosition() = -9; outputAt(0,0) = -1; outputAt(0,1) = 2147483646; outputAt(0,2) = -2147483647
            appendAdd(4,2,3) = 10; appendOutput(4) = 11; trapPosition() = 10; outputCount(0) = 3; outputCount(1) = 3
            removeInstruction(10) = 11; trapPosition() = -9; outputCount(0) = 4; appendAdd(0,0,1) = 11; trapPosition() = 11
            removeInstruction(0) = 11; trapPosition() = -9
            """);
        Script.run("promise 26, the run ends at the first trap", """
            declareRecord(2) = 0; appendConstant(0,-2147483648) = 0; appendEscape(0) = 1; appendAdd(0,0,0) = 2; appendAdd(0,0,0) = 3
            appendEscape(0) = 4; appendOutput(0) = 5; trapPosition() = 2; cost(0) = 2; cost(1) = 2; outputCount(0) = 0
            """);
        Script.run("promise 26, a trap that is skipped", """
            appendConstant(0,2147483647) = 0; appendSkip(1,1) = 1; appendAdd(0,0,0) = 2; appendOutput(0) = 3
            trapPosition() = -9; outputAt(0,0) = 2147483647; removeInstruction(1) = 3; trapPosition() = 1
            """);
    }

    private static void bytesOfAccesses() {
        Script.run("STORE and LOAD, least significant byte first", """
            declareRecord(8) = 0; appendConstant(0,-2023406815) = 0; appendStore(0,0,4,0) = 1      # 0x87654321
            appendLoad(1,0,0,1) = 2; appendOutput(1) = 3; appendLoad(1,0,1,1) = 4; appendOutput(1) = 5
            appendLoad(1,0,2,2) = 6; appendOutput(1) = 7; appendLoad(1,0,0,4) = 8; appendOutput(1) = 9
            appendLoad(1,0,1,4) = 10; appendOutput(1) = 11; appendLoad(1,0,3,1) = 12; appendOutput(1) = 13
            outputAt(0,0) = 33; outputAt(0,1) = 67; outputAt(0,2) = 34661; outputAt(0,3) = -2023406815
            outputAt(0,4) = 8873283; outputAt(0,5) = 135
            outputAt(1,0) = 33; outputAt(1,1) = 67; outputAt(1,2) = 34661; outputAt(1,3) = -2023406815
            outputAt(1,4) = 8873283; outputAt(1,5) = 135
            """);
        Script.run("STORE writes its bytes alone", """
            declareRecord(4) = 0; appendConstant(0,-1) = 0; appendStore(0,0,4,0) = 1; appendStore(0,1,2,7) = 2; appendLoad(1,0,0,4) = 3
            appendOutput(1) = 4; outputAt(0,0) = -16776961; outputAt(1,0) = -16776961; appendStore(0,3,1,6) = 5; appendLoad(1,0,0,4) = 6
            appendOutput(1) = 7; outputAt(0,1) = 255; outputAt(1,1) = 255
            """);
        Script.run("COPY writes its bytes alone", """
            declareRecord(8) = 0; declareRecord(8) = 1; appendConstant(0,-1) = 0; appendStore(0,0,4,0) = 1; appendStore(0,4,4,0) = 2
            appendCopy(1,1,0,0,2) = 3; appendLoad(1,1,0,4) = 4; appendOutput(1) = 5; outputAt(0,0) = 16776960; outputAt(1,0) = 16776960
            appendCopy(0,0,0,6,2) = 6; appendCopy(0,2,1,3,3) = 7; appendLoad(1,0,2,4) = 8; appendOutput(1) = 9
            outputAt(0,1) = -16777216; outputAt(1,1) = -16777216
            appendLoad(1,0,0,4) = 10; appendOutput(1) = 11; outputAt(0,2) = 65535; outputAt(1,2) = 65535
            """);
        Script.run("scalars of one and two bytes have no sign", """
            declareRecord(3) = 0; appendConstant(0,-2) = 0; appendStore(0,0,1,0) = 1; appendStore(0,1,2,0) = 2
            appendLoad(1,0,0,1) = 3; appendLoad(2,0,1,2) = 4; appendOutput(1) = 5; appendOutput(2) = 6; scalarCount() = 2
            outputAt(0,0) = 254; outputAt(1,0) = 254; outputAt(0,1) = 65534; outputAt(1,1) = 65534
            """);
    }

    private static void skips() {
        Script.run("SKIP", """
            appendConstant(1,1) = 0; appendSkip(1,9) = 1; appendOutput(1) = 2      # not 0: nothing is left out
            appendSkip(0,2) = 3; appendConstant(1,2) = 4; appendOutput(1) = 5; appendOutput(1) = 6
            outputCount(0) = 2; outputAt(0,0) = 1; outputAt(0,1) = 1; outputAt(1,1) = 1
            appendSkip(0,9) = 7; outputCount(1) = 2; appendOutput(1) = 8; outputCount(1) = 2
            """);
        Script.run("SKIP, a SKIP that is left out", """
            appendSkip(0,1) = 0; appendSkip(0,9) = 1; appendOutput(0) = 2; outputCount(0) = 1; outputCount(1) = 1
            """);
        Script.run("SKIP, nine and no more", """
            appendConstant(0,1) = 0; appendSkip(1,9) = 1; appendOutput(0) = 2; appendOutput(0) = 3; appendOutput(0) = 4; appendOutput(0) = 5
            appendOutput(0) = 6; appendOutput(0) = 7; appendOutput(0) = 8; appendOutput(0) = 9; appendOutput(0) = 10; outputCount(0) = 0
            appendOutput(0) = 11; outputCount(0) = 1; removeInstruction(5) = 11; outputCount(0) = 0; appendOutput(0) = 11; outputCount(1) = 1
            """);
        Script.run("SKIP, the negative is not 0", "appendConstant(0,-1) = 0; appendSkip(0,1) = 1; appendOutput(0) = 2; outputCount(0) = 1");
    }

    private static void outputs() {
        Script.run("promises 27 and 28", """
            appendOutput(3) = 0; appendConstant(3,-7) = 1; appendOutput(3) = 2; appendAdd(3,3,3) = 3; appendOutput(3) = 4
            outputCount(0) = 3; outputCount(1) = 3; outputAt(0,0) = 0; outputAt(0,1) = -7; outputAt(0,2) = -14; outputAt(0,3) = 0
            outputAt(1,0) = 0; outputAt(1,1) = -7; outputAt(1,2) = -14; outputAt(1,3) = 0; outputAt(0,-1) = 0
            outputCount(0) = 3; undo() = 4; outputCount(0) = 2; outputAt(0,2) = 0; outputAt(0,1) = -7
            """);
    }

    private static void checksums() {
        Script.run("promise 29, byte 0 grows and turns over", """
            declareRecord(2) = 0; appendConstant(0,255) = 0; appendStore(0,0,1,0) = 1; appendEscape(0) = 2; checksum(0) = 7905
            appendEscape(0) = 3; checksum(0) = 7596705; checksum(1) = 7596705
            appendEscape(0) = 4; checksum(0) = -1289501056; checksum(1) = -1289501056
            appendLoad(1,0,0,2) = 5; appendOutput(1) = 6; outputAt(0,0) = 2; outputAt(1,0) = 2
            """);
        Script.run("promise 29, what a copy from an escaping record carries on", """
            declareRecord(4) = 0; declareRecord(4) = 1; appendEscape(0) = 0; appendCopy(1,1,0,0,2) = 1; appendLoad(0,1,1,2) = 2; appendOutput(0) = 3
            checksum(0) = 0; outputAt(0,0) = 1; outputAt(1,0) = 1; appendEscape(1) = 4; checksum(0) = 961; checksum(1) = 961
            removeInstruction(0) = 4; checksum(0) = 0; outputAt(0,0) = 0
            """);
        Script.run("promise 29, until the trap", """
            declareRecord(1) = 0; appendConstant(0,2147483647) = 0; appendStore(0,0,1,0) = 1; appendEscape(0) = 2; appendAdd(0,0,0) = 3
            appendEscape(0) = 4; checksum(0) = 255; checksum(1) = 255; removeInstruction(3) = 4; checksum(0) = 7905; checksum(1) = 7905
            """);
    }

    private static void costs() {
        Script.run("promise 30, dead stores and dead pieces cost nothing", """
            declareRecord(8) = 0; declareRecord(8) = 1; appendStore(0,0,4,0) = 0; appendCopy(1,0,0,0,8) = 1; cost(0) = 9; cost(1) = 0
            appendLoad(0,1,4,4) = 2; cost(0) = 10; cost(1) = 0           # scalar to scalar: the upper piece; the lower is dead
            appendLoad(0,1,5,1) = 3; cost(0) = 11; cost(1) = 3           # scalar to record: 1, and two loads
            appendLoad(0,0,6,1) = 4; partitionCount(0) = 4; cost(0) = 12; cost(1) = 5   # three pieces: 2, 1, 1 bytes, each from a scalar
            """);
        Script.run("promise 30, a scalar beside a record", """
            declareRecord(4) = 0; appendStore(0,0,1,0) = 0; appendLoad(0,0,0,1) = 1; appendLoad(0,0,1,2) = 2; appendLoad(0,0,2,1) = 3
            cost(0) = 4; cost(1) = 2; appendLoad(0,0,3,1) = 4; appendStore(0,3,1,0) = 5; cost(0) = 6; cost(1) = 2
            """);
        Script.run("promise 30, record to record costs its length", """
            declareRecord(8) = 0; declareRecord(8) = 1; appendCopy(1,0,0,0,8) = 0; appendEscape(1) = 1; cost(0) = 16; cost(1) = 16
            isPromotable(0,0) = 0; isLive(0,0) = 1; appendStore(0,0,4,0) = 2; cost(0) = 17; cost(1) = 10   # pieces of scalars: 1 each
            """);
        Script.run("promise 30, an access to an escaping record", """
            declareRecord(4) = 0; appendStore(0,0,4,0) = 0; appendLoad(0,0,0,4) = 1; cost(0) = 2; cost(1) = 0
            appendEscape(0) = 2; cost(0) = 6; cost(1) = 6; removeInstruction(2) = 2; cost(1) = 0
            """);
        Script.run("promise 30, only what is executed costs", """
            declareRecord(8) = 0; declareRecord(8) = 1; appendSkip(0,4) = 0; appendStore(0,0,4,0) = 1; appendLoad(0,0,1,2) = 2; appendCopy(1,0,0,0,8) = 3
            appendEscape(1) = 4; cost(0) = 0; cost(1) = 0; appendLoad(0,0,0,4) = 5; cost(0) = 1; cost(1) = 1
            removeInstruction(0) = 5; cost(0) = 19; cost(1) = 16
            """);
    }
}
