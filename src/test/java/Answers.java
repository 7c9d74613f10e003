import java.util.ArrayList;
import java.util.List;

/**
 * All that can be seen of an object behind a text of calls: the answers to every question, now and behind each undo
 * that is still possible. The calls are made anew on a new object for each part of the questions, so that no object
 * is used for more than the 512 calls that the document promises.
 */
final class Answers {
    private static final int PART = 250;
    private static final List<String> NAMES = new ArrayList<>();
    private static final List<List<Integer>> ARGUMENTS = new ArrayList<>();

    static {
        for (String name : new String[] {"recordCount", "instructionCount", "scalarCount", "liveBytes", "trapPosition"}) {
            question(name);
        }
        for (int record = 0; record <= 4; record++) {
            question("escapes", record);
            question("partitionCount", record);
            question("paddingBytes", record);
            for (int partition = 0; partition <= 6; partition++) {
                question("partitionStart", record, partition);
                question("partitionLength", record, partition);
                question("isPromotable", record, partition);
                question("isLive", record, partition);
            }
        }
        for (int instruction = 0; instruction <= 24; instruction++) {
            question("pieceCount", instruction);
            for (int piece = 0; piece <= 4; piece++) {
                question("pieceLength", instruction, piece);
            }
        }
        for (int form = 0; form <= 1; form++) {
            question("outputCount", form);
            question("checksum", form);
            question("cost", form);
            for (int index = 0; index <= 24; index++) {
                question("outputAt", form, index);
            }
        }
    }

    private Answers() {
    }

    private static void question(String name, Integer... arguments) {
        NAMES.add(name);
        ARGUMENTS.add(List.of(arguments));
    }

    /** A line for each question behind each number of undos, with the answer. */
    static List<String> after(String calls) {
        List<String> lines = new ArrayList<>();
        for (int undos = 0; undos <= 9; undos++) {
            for (int first = 0; first < NAMES.size(); first += PART) {
                AggregateSplitter subject = new AggregateSplitter();
                Script.run("a setup", subject, calls);
                for (int undo = 1; undo <= undos; undo++) {
                    lines.add("undo " + undo + ": " + subject.undo());
                }
                for (int number = first; number < Math.min(first + PART, NAMES.size()); number++) {
                    int answer = Script.call(subject, NAMES.get(number), ARGUMENTS.get(number));
                    lines.add(undos + " undos, " + NAMES.get(number) + ARGUMENTS.get(number) + ": " + answer);
                }
            }
        }
        return lines;
    }

    /** The questions one behind the other, as a text of calls. */
    static List<String> questions() {
        List<String> calls = new ArrayList<>();
        for (int number = 0; number < NAMES.size(); number++) {
            String arguments = ARGUMENTS.get(number).toString();
            calls.add(NAMES.get(number) + "(" + arguments.substring(1, arguments.length() - 1) + ")");
        }
        return calls;
    }
}
