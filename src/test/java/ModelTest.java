import java.util.ArrayList;
import java.util.List;
import java.util.Random;

/** Long runs of drawn calls (always the same ones), each answer held against the model's. */
public final class ModelTest {
    private static final int RUNS = 1500;
    private static final int CALLS = 70;
    private static final int[] VALUES = {0, 1, -1, 2, 255, 256, 65535, 65536, 305419896, Integer.MAX_VALUE, Integer.MIN_VALUE};
    private static final int[] ODD = {-1, 4, 8, 10, 16, 17, 24, 25, Integer.MAX_VALUE, Integer.MIN_VALUE};

    private record Edit(String name, List<Integer> arguments) {
    }

    private final Random random;
    private final List<Edit> edits = new ArrayList<>();
    private AggregateSplitter subject = new AggregateSplitter();
    private int used = 0;
    private final Model model = new Model();
    private final StringBuilder log = new StringBuilder();
    private final int breadth;
    private final int escapeShare;

    private ModelTest(long seed) {
        random = new Random(seed);
        breadth = 1 + random.nextInt(16);
        escapeShare = random.nextInt(3);
        log.append("seed ").append(seed).append(':');
    }

    public static void main(String[] args) {
        for (int seed = 1; seed <= RUNS; seed++) {
            new ModelTest(seed).play();
        }
        Script.end("ModelTest");
    }

    private void play() {
        for (int call = 0; call < CALLS; call++) {
            edit(call);
            // Every answer after each fourth call and at the ends; a look at the counts after all others.
            if (call % 4 == 3 || call == CALLS - 1) {
                compareAll();
            }
            same("recordCount()", subject().recordCount(), model.sizes().size());
            same("instructionCount()", subject().instructionCount(), model.steps().size());
        }
    }

    /** The object for one more call: a new one with the same edits, where the promised calls are used up. */
    private AggregateSplitter subject() {
        if (used == Script.PROMISED_CALLS) {
            subject = new AggregateSplitter();
            for (Edit edit : edits) {
                Script.call(subject, edit.name(), edit.arguments());
            }
            used = edits.size();
        }
        used++;
        return subject;
    }

    private void same(String what, int got, int due) {
        Script.same(got == due ? what : log + " then " + what, got, due);
    }

    private int upTo(int bound) {
        return random.nextInt(bound);
    }

    /** Now and then an argument that fits nowhere. */
    private int drawn(int fitting) {
        return upTo(60) == 0 ? ODD[upTo(ODD.length)] : fitting;
    }

    private int record() {
        return drawn(upTo(Math.max(1, model.sizes().size())));
    }

    private int sizeOf(int record) {
        return record >= 0 && record < model.sizes().size() ? model.sizes().get(record) : 4;
    }

    private int offset(int record, int length) {
        return drawn(upTo(Math.max(1, sizeOf(record) - length + 1)));
    }

    private int width() {
        return drawn(1 << upTo(3));
    }

    private int register() {
        return drawn(upTo(upTo(4) == 0 ? 8 : 3));
    }

    private void edit(int call) {
        int choice = upTo(100);
        if (call < 2 || choice < 6) {
            one("declareRecord", drawn(Math.min(16, 1 + breadth / 2 + upTo(breadth))));
        } else if (choice < 24) {
            int record = record();
            int width = width();
            one("appendStore", record, offset(record, width), width, register());
        } else if (choice < 38) {
            int record = record();
            int width = width();
            one("appendLoad", register(), record, offset(record, width), width);
        } else if (choice < 62) {
            int to = record();
            int from = record();
            int length = drawn(1 + upTo(Math.min(sizeOf(to), sizeOf(from))));
            one("appendCopy", to, offset(to, length), from, offset(from, length), length);
        } else if (choice < 62 + escapeShare * 2) {
            one("appendEscape", record());
        } else if (choice < 74) {
            one("appendConstant", register(), upTo(3) == 0 ? random.nextInt() : VALUES[upTo(VALUES.length)]);
        } else if (choice < 77) {
            one("appendAdd", register(), register(), register());
        } else if (choice < 80) {
            one("appendSkip", register(), drawn(1 + upTo(upTo(2) == 0 ? 3 : 9)));
        } else if (choice < 86) {
            one("appendOutput", register());
        } else if (choice < 93) {
            one("removeInstruction", drawn(upTo(Math.max(1, model.steps().size()))));
        } else {
            one("undo");
        }
    }

    private void one(String name, int... arguments) {
        List<Integer> list = java.util.Arrays.stream(arguments).boxed().toList();
        log.append(' ').append(name).append(list);
        int got = Script.call(subject(), name, list);
        edits.add(new Edit(name, list));
        same("the last", got, onModel(name, arguments));
    }

    private int onModel(String name, int[] a) {
        return switch (name) {
            case "declareRecord" -> model.declareRecord(a[0]);
            case "appendStore" -> model.appendStore(a[0], a[1], a[2], a[3]);
            case "appendLoad" -> model.appendLoad(a[0], a[1], a[2], a[3]);
            case "appendCopy" -> model.appendCopy(a[0], a[1], a[2], a[3], a[4]);
            case "appendEscape" -> model.appendEscape(a[0]);
            case "appendConstant" -> model.appendConstant(a[0], a[1]);
            case "appendAdd" -> model.appendAdd(a[0], a[1], a[2]);
            case "appendSkip" -> model.appendSkip(a[0], a[1]);
            case "appendOutput" -> model.appendOutput(a[0]);
            case "removeInstruction" -> model.removeInstruction(a[0]);
            default -> model.undo();
        };
    }

    private void compareAll() {
        Model.Analysis analysis = model.new Analysis();
        compareRuns(analysis);
        int scalars = 0;
        int live = 0;
        for (int record = -1; record <= 4; record++) {
            boolean exists = record >= 0 && record < model.sizes().size();
            List<Model.Range> partitions = exists ? analysis.partitions.get(record) : List.of();
            String at = "(" + record + ")";
            same("escapes" + at, subject().escapes(record), exists ? one(model.escapes(record)) : -1);
            same("partitionCount" + at, subject().partitionCount(record), exists ? partitions.size() : -1);
            same("paddingBytes" + at, subject().paddingBytes(record), exists ? analysis.padding(record) : -1);
            for (int number = -1; number <= partitions.size(); number++) {
                boolean there = number >= 0 && number < partitions.size();
                Model.Range partition = there ? partitions.get(number) : new Model.Range(0, -1, -1);
                boolean promotable = analysis.promotable.contains(partition);
                boolean isLive = analysis.live.contains(partition);
                String of = "(" + record + "," + number + ")";
                same("partitionStart" + of, subject().partitionStart(record, number), partition.start());
                same("partitionLength" + of, subject().partitionLength(record, number), partition.length());
                same("isPromotable" + of, subject().isPromotable(record, number), there ? one(promotable) : -1);
                same("isLive" + of, subject().isLive(record, number), there ? one(isLive) : -1);
                scalars += there && promotable && isLive ? 1 : 0;
                live += there && isLive ? partition.length() : 0;
            }
        }
        same("scalarCount()", subject().scalarCount(), scalars);
        same("liveBytes()", subject().liveBytes(), live);
        comparePieces();
    }

    private void comparePieces() {
        for (int number = -1; number <= model.steps().size(); number++) {
            boolean there = number >= 0 && number < model.steps().size()
                    && model.steps().get(number).kind() == Model.Kind.COPY;
            List<Model.Piece> pieces = there ? model.pieces(model.steps().get(number)) : List.of();
            same("pieceCount(" + number + ")", subject().pieceCount(number), there ? pieces.size() : -1);
            for (int piece = -1; piece <= pieces.size(); piece++) {
                int due = piece >= 0 && piece < pieces.size() ? pieces.get(piece).to().length() : -1;
                same("pieceLength(" + number + "," + piece + ")", subject().pieceLength(number, piece), due);
            }
        }
    }

    private void compareRuns(Model.Analysis analysis) {
        for (int form = 0; form <= 1; form++) {
            Model.Outcome outcome = model.run(analysis, form == 1);
            same("trapPosition()", subject().trapPosition(), outcome.trap);
            same("outputCount(" + form + ")", subject().outputCount(form), outcome.outputs.size());
            same("checksum(" + form + ")", subject().checksum(form), outcome.checksum);
            same("cost(" + form + ")", subject().cost(form), outcome.cost);
            for (int index = -1; index <= outcome.outputs.size(); index++) {
                boolean there = index >= 0 && index < outcome.outputs.size();
                same("outputAt(" + form + "," + index + ")", subject().outputAt(form, index), there ? outcome.outputs.get(index) : 0);
            }
        }
    }

    private static int one(boolean condition) {
        return condition ? 1 : 0;
    }
}
