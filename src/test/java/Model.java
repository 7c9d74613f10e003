import java.util.ArrayDeque;
import java.util.ArrayList;
import java.util.BitSet;
import java.util.Deque;
import java.util.HashSet;
import java.util.List;
import java.util.Set;
import java.util.TreeMap;

/**
 * The document's words, put down as literally as they can be and with no thought of speed. It shares
 * nothing with the class under test: it keeps whole states for undo, sets of bytes for ranges, and
 * runs the transformed program on scalars and small records that really are apart.
 */
final class Model {
    enum Kind { STORE, LOAD, COPY, ESCAPE, CONSTANT, ADD, SKIP, OUTPUT }

    /** An instruction with its arguments in the order of the document's list of instructions. */
    record Step(Kind kind, int a, int b, int c, int d, int e) {
        boolean isAccess() {
            return kind == Kind.STORE || kind == Kind.LOAD;
        }
    }

    record State(List<Integer> sizes, List<Step> steps) {
    }

    /** A range of bytes of a record. */
    record Range(int record, int start, int length) {
        BitSet bytes() {
            BitSet set = new BitSet();
            set.set(start, start + length);
            return set;
        }

        boolean meets(Range other) {
            return record == other.record && bytes().intersects(other.bytes());
        }

        boolean holds(Range other) {
            BitSet rest = other.bytes();
            rest.andNot(bytes());
            return record == other.record && rest.isEmpty();
        }
    }

    record Piece(Range to, Range from) {
    }

    static final class Outcome {
        final List<Integer> outputs = new ArrayList<>();
        int checksum = 0;
        int cost = 0;
        int trap = -9;
    }

    private State state = new State(List.of(), List.of());
    private final Deque<State> past = new ArrayDeque<>();

    // ---- edits

    private void edit(State next) {
        past.addLast(state);
        if (past.size() > 8) {
            past.removeFirst();
        }
        state = next;
    }

    private int append(boolean valid, Kind kind, int... arguments) {
        if (!valid) {
            return -1;
        }
        if (steps().size() == 24) {
            return -3;
        }
        int[] five = java.util.Arrays.copyOf(arguments, 5);
        List<Step> next = new ArrayList<>(steps());
        next.add(new Step(kind, five[0], five[1], five[2], five[3], five[4]));
        edit(new State(sizes(), next));
        return steps().size() - 1;
    }

    int declareRecord(int size) {
        if (size < 1 || size > 16) {
            return -1;
        }
        if (sizes().size() == 4) {
            return -3;
        }
        List<Integer> next = new ArrayList<>(sizes());
        next.add(size);
        edit(new State(next, steps()));
        return sizes().size() - 1;
    }

    int appendStore(int record, int offset, int width, int register) {
        return append(access(record, offset, width) && register(register), Kind.STORE, record, offset, width, register);
    }

    int appendLoad(int register, int record, int offset, int width) {
        return append(access(record, offset, width) && register(register), Kind.LOAD, register, record, offset, width);
    }

    int appendCopy(int destination, int destinationOffset, int source, int sourceOffset, int length) {
        boolean valid = range(destination, destinationOffset, length) && range(source, sourceOffset, length)
                && !new Range(destination, destinationOffset, length).meets(new Range(source, sourceOffset, length));
        return append(valid, Kind.COPY, destination, destinationOffset, source, sourceOffset, length);
    }

    int appendEscape(int record) {
        return append(exists(record), Kind.ESCAPE, record);
    }

    int appendConstant(int register, int value) {
        return append(register(register), Kind.CONSTANT, register, value);
    }

    int appendAdd(int register, int first, int second) {
        return append(register(register) && register(first) && register(second), Kind.ADD, register, first, second);
    }

    int appendSkip(int register, int count) {
        return append(register(register) && count >= 1 && count <= 9, Kind.SKIP, register, count);
    }

    int appendOutput(int register) {
        return append(register(register), Kind.OUTPUT, register);
    }

    int removeInstruction(int instruction) {
        if (instruction < 0 || instruction >= steps().size()) {
            return -1;
        }
        List<Step> next = new ArrayList<>(steps());
        next.remove(instruction);
        edit(new State(sizes(), next));
        return next.size();
    }

    int undo() {
        if (past.isEmpty()) {
            return -2;
        }
        state = past.removeLast();
        return past.size();
    }

    List<Integer> sizes() {
        return state.sizes();
    }

    List<Step> steps() {
        return state.steps();
    }

    private boolean exists(int record) {
        return record >= 0 && record < sizes().size();
    }

    private boolean register(int register) {
        return register >= 0 && register <= 7;
    }

    private boolean range(int record, int offset, int length) {
        return exists(record) && offset >= 0 && length >= 1 && (long) offset + length <= sizes().get(record);
    }

    private boolean access(int record, int offset, int width) {
        return Set.of(1, 2, 4).contains(width) && range(record, offset, width);
    }

    // ---- the analysis

    boolean escapes(int record) {
        return steps().stream().anyMatch(step -> step.kind == Kind.ESCAPE && step.a == record);
    }

    static Range accessOf(Step step) {
        return step.kind == Kind.STORE ? new Range(step.a, step.b, step.c) : new Range(step.b, step.c, step.d);
    }

    List<Range> accesses() {
        List<Range> ranges = new ArrayList<>();
        for (Step step : steps()) {
            if (step.isAccess()) {
                ranges.add(accessOf(step));
            }
        }
        return ranges;
    }

    List<Range> partitions(int record) {
        if (escapes(record)) {
            return List.of(new Range(record, 0, sizes().get(record)));
        }
        TreeMap<Integer, Range> found = new TreeMap<>();
        BitSet hard = new BitSet();
        for (BitSet group : hardGroups(record)) {
            hard.or(group);
            found.put(group.nextSetBit(0), new Range(record, group.nextSetBit(0), group.cardinality()));
        }
        Set<String> before = Set.of();
        int start = -1;
        for (int offset = 0; offset <= sizes().get(record); offset++) {
            Set<String> here = hard.get(offset) ? Set.of() : copyRangesAt(record, offset);
            if (!here.equals(before)) {
                if (start >= 0) {
                    found.put(start, new Range(record, start, offset - start));
                }
                start = here.isEmpty() ? -1 : offset;
            }
            before = here;
        }
        return new ArrayList<>(found.values());
    }

    private List<BitSet> hardGroups(int record) {
        List<BitSet> groups = new ArrayList<>();
        for (Range access : accesses()) {
            if (access.record == record) {
                BitSet group = access.bytes();
                for (int number = groups.size() - 1; number >= 0; number--) {
                    if (groups.get(number).intersects(group)) {
                        group.or(groups.remove(number));
                    }
                }
                groups.add(group);
            }
        }
        return groups;
    }

    private Set<String> copyRangesAt(int record, int offset) {
        Set<String> names = new HashSet<>();
        for (int number = 0; number < steps().size(); number++) {
            Step step = steps().get(number);
            if (step.kind == Kind.COPY) {
                if (new Range(step.a, step.b, step.e).holds(new Range(record, offset, 1))) {
                    names.add("destination " + number);
                }
                if (new Range(step.c, step.d, step.e).holds(new Range(record, offset, 1))) {
                    names.add("source " + number);
                }
            }
        }
        return names;
    }

    List<Piece> pieces(Step copy) {
        List<Piece> pieces = new ArrayList<>();
        int begin = 0;
        for (int end = 1; end <= copy.e; end++) {
            if (end == copy.e || starts(copy.a).contains(copy.b + end) || starts(copy.c).contains(copy.d + end)) {
                pieces.add(new Piece(new Range(copy.a, copy.b + begin, end - begin), new Range(copy.c, copy.d + begin, end - begin)));
                begin = end;
            }
        }
        return pieces;
    }

    private Set<Integer> starts(int record) {
        Set<Integer> starts = new HashSet<>();
        for (Range partition : partitions(record)) {
            starts.add(partition.start);
        }
        return starts;
    }

    List<Piece> allPieces() {
        List<Piece> pieces = new ArrayList<>();
        for (Step step : steps()) {
            if (step.kind == Kind.COPY) {
                pieces.addAll(pieces(step));
            }
        }
        return pieces;
    }

    /** A frozen analysis of the present program, so that it is made once for many questions. */
    final class Analysis {
        final List<List<Range>> partitions = new ArrayList<>();
        final Set<Range> promotable = new HashSet<>();
        final Set<Range> live = new HashSet<>();

        Analysis() {
            List<Range> sides = new ArrayList<>(accesses());
            for (Piece piece : allPieces()) {
                sides.add(piece.to);
                sides.add(piece.from);
            }
            for (int record = 0; record < sizes().size(); record++) {
                partitions.add(Model.this.partitions(record));
                for (Range partition : partitions.get(record)) {
                    boolean whole = sides.stream().allMatch(side -> !side.meets(partition) || side.equals(partition));
                    if (!escapes(record) && Set.of(1, 2, 4).contains(partition.length) && whole) {
                        promotable.add(partition);
                    }
                    boolean loaded = steps().stream().anyMatch(step -> step.kind == Kind.LOAD && accessOf(step).meets(partition));
                    if (escapes(record) || loaded) {
                        live.add(partition);
                    }
                }
            }
            int before;
            do {
                before = live.size();
                for (Piece piece : allPieces()) {
                    if (live.contains(partitionOf(piece.to))) {
                        live.add(partitionOf(piece.from));
                    }
                }
            } while (live.size() > before);
        }

        /** The one partition that holds the whole range. */
        Range partitionOf(Range range) {
            for (Range partition : partitions.get(range.record)) {
                if (partition.holds(range)) {
                    return partition;
                }
            }
            throw new IllegalStateException("no partition holds " + range);
        }

        int padding(int record) {
            return sizes().get(record) - partitions.get(record).stream().mapToInt(Range::length).sum();
        }
    }

    // ---- runs

    /** Where the bytes of a run are. */
    interface Memory {
        int[] read(Range range);

        void write(Range range, int[] bytes);
    }

    private final class WholeRecords implements Memory {
        final int[][] bytes = new int[4][16];

        public int[] read(Range range) {
            return java.util.Arrays.copyOfRange(bytes[range.record], range.start, range.start + range.length);
        }

        public void write(Range range, int[] values) {
            System.arraycopy(values, 0, bytes[range.record], range.start, values.length);
        }
    }

    /** Scalars for the live promotable partitions, a record for each other live one, and nothing else. */
    private static final class Split implements Memory {
        final Analysis analysis;
        final TreeMap<String, Integer> scalars = new TreeMap<>();
        final TreeMap<String, int[]> records = new TreeMap<>();

        Split(Analysis analysis) {
            this.analysis = analysis;
            for (Range partition : analysis.live) {
                if (analysis.promotable.contains(partition)) {
                    scalars.put(partition.toString(), 0);
                } else {
                    records.put(partition.toString(), new int[partition.length]);
                }
            }
        }

        public int[] read(Range range) {
            Range partition = analysis.partitionOf(range);
            if (analysis.promotable.contains(partition)) {
                int scalar = scalars.get(partition.toString());
                int[] bytes = new int[range.length];
                for (int index = 0; index < bytes.length; index++) {
                    bytes[index] = scalar >>> 8 * index & 255;
                }
                return bytes;
            }
            int from = range.start - partition.start;
            return java.util.Arrays.copyOfRange(records.get(partition.toString()), from, from + range.length);
        }

        public void write(Range range, int[] bytes) {
            Range partition = analysis.partitionOf(range);
            if (!analysis.live.contains(partition)) {
                return;
            }
            if (analysis.promotable.contains(partition)) {
                scalars.put(partition.toString(), number(bytes));
            } else {
                System.arraycopy(bytes, 0, records.get(partition.toString()), range.start - partition.start, bytes.length);
            }
        }
    }

    private static int number(int[] bytes) {
        int value = 0;
        for (int index = 0; index < bytes.length; index++) {
            value += bytes[index] << 8 * index;
        }
        return value;
    }

    Outcome run(Analysis analysis, boolean transformed) {
        Outcome outcome = new Outcome();
        Memory memory = transformed ? new Split(analysis) : new WholeRecords();
        int[] registers = new int[8];
        int next = 0;
        while (next < steps().size()) {
            Step step = steps().get(next);
            next++;
            switch (step.kind) {
                case STORE -> {
                    int value = registers[step.d];
                    int[] bytes = {value & 255, value >>> 8 & 255, value >>> 16 & 255, value >>> 24};
                    memory.write(accessOf(step), java.util.Arrays.copyOf(bytes, step.c));
                    outcome.cost += accessCost(analysis, step, transformed);
                }
                case LOAD -> {
                    registers[step.a] = number(memory.read(accessOf(step)));
                    outcome.cost += accessCost(analysis, step, transformed);
                }
                case COPY -> outcome.cost += transformed ? copyPieces(analysis, memory, step) : copyWhole(memory, step);
                case ESCAPE -> {
                    Range whole = new Range(step.a, 0, sizes().get(step.a));
                    int[] bytes = memory.read(whole);
                    for (int value : bytes) {
                        outcome.checksum = outcome.checksum * 31 + value;
                    }
                    bytes[0] = bytes[0] == 255 ? 0 : bytes[0] + 1;
                    memory.write(whole, bytes);
                    outcome.cost += bytes.length;
                }
                case CONSTANT -> registers[step.a] = step.b;
                case ADD -> {
                    try {
                        registers[step.a] = Math.addExact(registers[step.b], registers[step.c]);
                    } catch (ArithmeticException overflow) {
                        outcome.trap = next - 1;
                        return outcome;
                    }
                }
                case SKIP -> next += registers[step.a] == 0 ? step.b : 0;
                case OUTPUT -> outcome.outputs.add(registers[step.a]);
            }
        }
        return outcome;
    }

    private int accessCost(Analysis analysis, Step step, boolean transformed) {
        Range partition = analysis.partitionOf(accessOf(step));
        return transformed && (analysis.promotable.contains(partition) || !analysis.live.contains(partition)) ? 0 : 1;
    }

    private int copyWhole(Memory memory, Step step) {
        memory.write(new Range(step.a, step.b, step.e), memory.read(new Range(step.c, step.d, step.e)));
        return step.e;
    }

    private int copyPieces(Analysis analysis, Memory memory, Step step) {
        int cost = 0;
        for (Piece piece : pieces(step)) {
            Range to = analysis.partitionOf(piece.to);
            Range from = analysis.partitionOf(piece.from);
            if (analysis.live.contains(to)) {
                memory.write(piece.to, memory.read(piece.from));
                int scalars = (analysis.promotable.contains(to) ? 1 : 0) + (analysis.promotable.contains(from) ? 1 : 0);
                cost += scalars == 2 ? 0 : scalars == 1 ? 1 : piece.to.length;
            }
        }
        return cost;
    }
}
