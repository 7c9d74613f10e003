/**
 * Scalar replacement of aggregates: splits the byte records of a small program into partitions,
 * promotes partitions to scalar variables, cuts copies into pieces, removes dead partitions, and
 * runs the program in its original and in its transformed form.
 */
public final class AggregateSplitter {
    public static final int INVALID_ARGUMENT = -1;
    public static final int INVALID_STATE = -2;
    public static final int LIMIT_REACHED = -3;
    public static final int NONE = -9;

    private static final int MAX_RECORDS = 4;
    private static final int MAX_SIZE = 16;
    private static final int MAX_INSTRUCTIONS = 24;
    private static final int MAX_SKIP = 9;
    private static final int MAX_UNDO = 8;
    private static final int REGISTERS = 8;

    private static final int NOTHING = 0;
    private static final int STORE = 1;
    private static final int LOAD = 2;
    private static final int COPY = 3;
    private static final int ESCAPE = 4;
    private static final int CONSTANT = 5;
    private static final int ADD = 6;
    private static final int SKIP = 7;
    private static final int OUTPUT = 8;

    private static final int DECLARED = 1;
    private static final int APPENDED = 2;
    private static final int REMOVED = 3;

    private final Program program;
    private final History history;
    private final Analysis analysis;
    private final Run run;

    public AggregateSplitter() {
        program = new Program();
        history = new History();
        analysis = new Analysis();
        run = new Run(program, analysis);
    }

    // ---- building a program

    public int declareRecord(int size) {
        if (size < 1 || size > MAX_SIZE) {
            return INVALID_ARGUMENT;
        }
        int number = program.records;
        if (number >= MAX_RECORDS) {
            return LIMIT_REACHED;
        }
        program.addRecord(size);
        history.note(DECLARED, number, program.nothing);
        analysis.stale = true;
        return number;
    }

    public int appendStore(int record, int offset, int width, int register) {
        if (!isAccess(record, offset, width) || !isRegister(register)) {
            return INVALID_ARGUMENT;
        }
        return append(Instruction.ofAccess(STORE, record, offset, width, register));
    }

    public int appendLoad(int register, int record, int offset, int width) {
        if (!isAccess(record, offset, width) || !isRegister(register)) {
            return INVALID_ARGUMENT;
        }
        return append(Instruction.ofAccess(LOAD, record, offset, width, register));
    }

    public int appendCopy(int destination, int destinationOffset, int source, int sourceOffset, int length) {
        if (!program.holdsRange(destination, destinationOffset, length)
                || !program.holdsRange(source, sourceOffset, length)) {
            return INVALID_ARGUMENT;
        }
        // Both offsets are small here, so their difference can't wrap around.
        if (destination == source && Math.abs(destinationOffset - sourceOffset) < length) {
            return INVALID_ARGUMENT;
        }
        return append(Instruction.ofCopy(destination, destinationOffset, source, sourceOffset, length));
    }

    public int appendEscape(int record) {
        if (!program.hasRecord(record)) {
            return INVALID_ARGUMENT;
        }
        return append(Instruction.ofEscape(record));
    }

    public int appendConstant(int register, int value) {
        if (!isRegister(register)) {
            return INVALID_ARGUMENT;
        }
        return append(Instruction.ofNumber(CONSTANT, register, value));
    }

    public int appendAdd(int register, int first, int second) {
        if (!isRegister(register) || !isRegister(first) || !isRegister(second)) {
            return INVALID_ARGUMENT;
        }
        return append(Instruction.ofAdd(register, first, second));
    }

    public int appendSkip(int register, int count) {
        if (!isRegister(register) || count < 1 || count > MAX_SKIP) {
            return INVALID_ARGUMENT;
        }
        return append(Instruction.ofNumber(SKIP, register, count));
    }

    public int appendOutput(int register) {
        if (!isRegister(register)) {
            return INVALID_ARGUMENT;
        }
        return append(Instruction.ofNumber(OUTPUT, register, 0));
    }

    public int removeInstruction(int instruction) {
        if (!program.hasInstruction(instruction)) {
            return INVALID_ARGUMENT;
        }
        history.note(REMOVED, instruction, program.at(instruction));
        program.delete(instruction);
        analysis.stale = true;
        return program.instructions;
    }

    public int undo() {
        if (history.kept == 0) {
            return INVALID_STATE;
        }
        history.takeBack(program);
        analysis.stale = true;
        return history.kept;
    }

    public int recordCount() {
        return program.records;
    }

    public int instructionCount() {
        return program.instructions;
    }

    // ---- the analysis

    public int escapes(int record) {
        if (!program.hasRecord(record)) {
            return INVALID_ARGUMENT;
        }
        return oneIf(layoutNow(record).escaped);
    }

    public int partitionCount(int record) {
        if (!program.hasRecord(record)) {
            return INVALID_ARGUMENT;
        }
        return layoutNow(record).count;
    }

    public int partitionStart(int record, int partition) {
        Partition found = partitionNow(record, partition);
        return found.length == 0 ? INVALID_ARGUMENT : found.start;
    }

    public int partitionLength(int record, int partition) {
        Partition found = partitionNow(record, partition);
        return found.length == 0 ? INVALID_ARGUMENT : found.length;
    }

    public int isPromotable(int record, int partition) {
        Partition found = partitionNow(record, partition);
        return found.length == 0 ? INVALID_ARGUMENT : oneIf(found.promotable);
    }

    public int isLive(int record, int partition) {
        Partition found = partitionNow(record, partition);
        return found.length == 0 ? INVALID_ARGUMENT : oneIf(found.live);
    }

    public int paddingBytes(int record) {
        if (!program.hasRecord(record)) {
            return INVALID_ARGUMENT;
        }
        return layoutNow(record).countPadding();
    }

    public int pieceCount(int instruction) {
        if (program.at(instruction).kind != COPY) {
            return INVALID_ARGUMENT;
        }
        analysis.refresh(program);
        return analysis.countPieces(instruction);
    }

    public int pieceLength(int instruction, int piece) {
        if (program.at(instruction).kind != COPY) {
            return INVALID_ARGUMENT;
        }
        analysis.refresh(program);
        int length = analysis.lengthOfPiece(instruction, piece);
        return length == 0 ? INVALID_ARGUMENT : length;
    }

    public int scalarCount() {
        int scalars = 0;
        for (int record = 0; record < program.records; record++) {
            scalars += layoutNow(record).countScalars();
        }
        return scalars;
    }

    public int liveBytes() {
        int bytes = 0;
        for (int record = 0; record < program.records; record++) {
            bytes += layoutNow(record).countLiveBytes();
        }
        return bytes;
    }

    // ---- runs

    public int trapPosition() {
        return runOf(0).trap;
    }

    public int outputCount(int transformed) {
        return isForm(transformed) ? runOf(transformed).outputTotal : INVALID_ARGUMENT;
    }

    public int outputAt(int transformed, int index) {
        return isForm(transformed) ? runOf(transformed).outputOf(index) : 0;
    }

    public int checksum(int transformed) {
        return isForm(transformed) ? runOf(transformed).sum : 0;
    }

    public int cost(int transformed) {
        return isForm(transformed) ? runOf(transformed).price : INVALID_ARGUMENT;
    }

    // ---- what the methods above share

    private int append(Instruction instruction) {
        int number = program.instructions;
        if (number >= MAX_INSTRUCTIONS) {
            return LIMIT_REACHED;
        }
        program.insert(number, instruction);
        history.note(APPENDED, number, instruction);
        analysis.stale = true;
        return number;
    }

    private boolean isAccess(int record, int offset, int width) {
        return isScalarLength(width) && program.holdsRange(record, offset, width);
    }

    private Layout layoutNow(int record) {
        analysis.refresh(program);
        return analysis.layoutOf(record);
    }

    /** A partition of the length 0 if there is no such one: a record that is not declared has none. */
    private Partition partitionNow(int record, int partition) {
        analysis.refresh(program);
        return analysis.layoutOf(record).numbered(partition);
    }

    private Run runOf(int transformed) {
        analysis.refresh(program);
        run.execute(transformed == 1);
        return run;
    }

    private static boolean isForm(int transformed) {
        return transformed == 0 || transformed == 1;
    }

    private static boolean isRegister(int register) {
        return register >= 0 && register < REGISTERS;
    }

    private static boolean isScalarLength(int length) {
        return length == 1 || length == 2 || length == 4;
    }

    private static int oneIf(boolean condition) {
        return condition ? 1 : 0;
    }

    /** One instruction; the fields that its kind has no use for stay 0. */
    private static final class Instruction {
        final int kind;
        int register;
        int record;
        int offset;
        int length;
        int source;
        int sourceOffset;
        int first;
        int second;
        int number;

        Instruction(int kind) {
            this.kind = kind;
        }

        static Instruction ofAccess(int kind, int record, int offset, int width, int register) {
            Instruction made = new Instruction(kind);
            made.record = record;
            made.offset = offset;
            made.length = width;
            made.register = register;
            return made;
        }

        static Instruction ofCopy(int record, int offset, int source, int sourceOffset, int length) {
            Instruction made = new Instruction(COPY);
            made.record = record;
            made.offset = offset;
            made.source = source;
            made.sourceOffset = sourceOffset;
            made.length = length;
            return made;
        }

        static Instruction ofEscape(int record) {
            Instruction made = new Instruction(ESCAPE);
            made.record = record;
            return made;
        }

        static Instruction ofAdd(int register, int first, int second) {
            Instruction made = new Instruction(ADD);
            made.register = register;
            made.first = first;
            made.second = second;
            return made;
        }

        /** The number is a CONSTANT's value or a SKIP's count. */
        static Instruction ofNumber(int kind, int register, int number) {
            Instruction made = new Instruction(kind);
            made.register = register;
            made.number = number;
            return made;
        }

        boolean isLoadOrStore() {
            return kind == LOAD || kind == STORE;
        }
    }

    /** The records' sizes and the list of instructions. */
    private static final class Program {
        final int[] sizes = new int[MAX_RECORDS];
        final Instruction[] list = new Instruction[MAX_INSTRUCTIONS];
        /** Stands in every free place of the list, so that no place is ever null. */
        final Instruction nothing = new Instruction(NOTHING);
        int records;
        int instructions;

        Program() {
            for (int position = 0; position < MAX_INSTRUCTIONS; position++) {
                list[position] = nothing;
            }
        }

        boolean hasRecord(int record) {
            return record >= 0 && record < records;
        }

        boolean hasInstruction(int position) {
            return position >= 0 && position < instructions;
        }

        int sizeOf(int record) {
            return hasRecord(record) ? sizes[record] : 0;
        }

        /** Subtracts rather than adds, so that no offset and no length can wrap around. */
        boolean holdsRange(int record, int offset, int length) {
            int size = sizeOf(record);
            return length >= 1 && length <= size && offset >= 0 && offset <= size - length;
        }

        Instruction at(int position) {
            return hasInstruction(position) ? list[position] : nothing;
        }

        void addRecord(int size) {
            if (records < MAX_RECORDS) {
                sizes[records] = size;
                records++;
            }
        }

        void dropRecord() {
            if (records > 0) {
                records--;
            }
        }

        void insert(int position, Instruction instruction) {
            if (position < 0 || position > instructions || instructions >= MAX_INSTRUCTIONS) {
                return;
            }
            for (int place = instructions; place > position; place--) {
                list[place] = list[place - 1];
            }
            list[position] = instruction;
            instructions++;
        }

        void delete(int position) {
            if (!hasInstruction(position)) {
                return;
            }
            instructions--;
            for (int place = position; place < instructions; place++) {
                list[place] = list[place + 1];
            }
            list[instructions] = nothing;
        }
    }

    /** A ring of the latest edits, with what is needed to take each of them back. */
    private static final class History {
        final int[] kinds = new int[MAX_UNDO];
        final int[] positions = new int[MAX_UNDO];
        final Instruction[] subjects = new Instruction[MAX_UNDO];
        int next;
        int kept;

        void note(int kind, int position, Instruction subject) {
            kinds[next] = kind;
            positions[next] = position;
            subjects[next] = subject;
            next = (next + 1) % MAX_UNDO;
            kept = Math.min(kept + 1, MAX_UNDO);
        }

        void takeBack(Program program) {
            if (kept == 0) {
                return;
            }
            kept--;
            next = (next + MAX_UNDO - 1) % MAX_UNDO;
            if (kinds[next] == DECLARED) {
                program.dropRecord();
            } else if (kinds[next] == APPENDED) {
                program.delete(positions[next]);
            } else {
                program.insert(positions[next], subjects[next]);
            }
        }
    }

    /** A range of bytes of one record; with the length 0 it is no partition. */
    private static final class Partition {
        int start;
        int length;
        boolean promotable;
        boolean live;

        void beginAt(int offset, boolean escaped) {
            start = offset;
            length = 0;
            live = escaped;
        }

        void grow(boolean escaped) {
            length++;
            promotable = !escaped && isScalarLength(length);
        }

        /** An access or a side of a piece inside the partition is the whole of it just if it is as long. */
        void touchWith(int rangeLength) {
            if (rangeLength != length) {
                promotable = false;
            }
        }
    }

    /** How one record is split into partitions. */
    private static final class Layout {
        final Partition[] partitions = new Partition[MAX_SIZE];
        final Partition noPartition = new Partition();
        /** The partition of each byte. */
        final Partition[] holders = new Partition[MAX_SIZE];
        final boolean[] accessed = new boolean[MAX_SIZE];
        /** Whether one access holds both the byte and the byte before it. */
        final boolean[] joined = new boolean[MAX_SIZE];
        /** A bit for each copy range that the byte is in. */
        final long[] copyRanges = new long[MAX_SIZE];
        int size;
        int count;
        boolean escaped;

        Layout() {
            for (int number = 0; number < MAX_SIZE; number++) {
                partitions[number] = new Partition();
                holders[number] = noPartition;
            }
        }

        void clear(int newSize) {
            size = Math.min(newSize, MAX_SIZE);
            count = 0;
            escaped = false;
            for (int offset = 0; offset < MAX_SIZE; offset++) {
                holders[offset] = noPartition;
                accessed[offset] = false;
                joined[offset] = false;
                copyRanges[offset] = 0L;
            }
        }

        void addAccess(int offset, int length) {
            for (int step = 0; step < length; step++) {
                if (isByte(offset + step)) {
                    accessed[offset + step] = true;
                    joined[offset + step] |= step > 0;
                }
            }
        }

        void addCopyRange(int offset, int length, long bit) {
            for (int step = 0; step < length; step++) {
                if (isByte(offset + step)) {
                    copyRanges[offset + step] |= bit;
                }
            }
        }

        void formPartitions() {
            for (int offset = 0; offset < size; offset++) {
                if (!isPadding(offset)) {
                    if (beginsPartition(offset)) {
                        partitions[count].beginAt(offset, escaped);
                        count++;
                    }
                    holders[offset] = numbered(count - 1);
                    holders[offset].grow(escaped);
                }
            }
        }

        private boolean isByte(int offset) {
            return offset >= 0 && offset < size;
        }

        private boolean isPadding(int offset) {
            return !escaped && !accessed[offset] && copyRanges[offset] == 0L;
        }

        /** Asked only of bytes that are no padding. */
        private boolean beginsPartition(int offset) {
            if (offset == 0) {
                return true;
            }
            if (escaped) {
                return false;
            }
            if (accessed[offset]) {
                return !joined[offset];
            }
            return accessed[offset - 1] || copyRanges[offset - 1] != copyRanges[offset];
        }

        Partition numbered(int number) {
            return number >= 0 && number < count ? partitions[number] : noPartition;
        }

        Partition holding(int offset) {
            return offset >= 0 && offset < MAX_SIZE ? holders[offset] : noPartition;
        }

        boolean isStart(int offset) {
            Partition partition = holding(offset);
            return partition.length > 0 && partition.start == offset;
        }

        int countPadding() {
            int padding = size;
            for (int number = 0; number < count; number++) {
                padding -= partitions[number].length;
            }
            return padding;
        }

        int countScalars() {
            int scalars = 0;
            for (int number = 0; number < count; number++) {
                scalars += oneIf(partitions[number].live && partitions[number].promotable);
            }
            return scalars;
        }

        int countLiveBytes() {
            int bytes = 0;
            for (int number = 0; number < count; number++) {
                bytes += partitions[number].live ? partitions[number].length : 0;
            }
            return bytes;
        }
    }

    /** The partitions of all records, and the pieces that they cut the copies into. */
    private static final class Analysis {
        final Layout[] layouts = new Layout[MAX_RECORDS];
        final Layout noLayout = new Layout();
        /** For each COPY and each step of its range: the length of the piece that begins there, or 0. */
        final int[][] pieces = new int[MAX_INSTRUCTIONS][MAX_SIZE];
        boolean stale = true;

        Analysis() {
            for (int record = 0; record < MAX_RECORDS; record++) {
                layouts[record] = new Layout();
            }
        }

        Layout layoutOf(int record) {
            return record >= 0 && record < MAX_RECORDS ? layouts[record] : noLayout;
        }

        /** The order matters: pieces need all partitions, and promotion needs all pieces. */
        void refresh(Program program) {
            if (!stale) {
                return;
            }
            stale = false;
            for (int record = 0; record < MAX_RECORDS; record++) {
                layouts[record].clear(program.sizeOf(record));
            }
            for (int position = 0; position < program.instructions; position++) {
                collectRanges(program.at(position), position);
            }
            for (int record = 0; record < MAX_RECORDS; record++) {
                layouts[record].formPartitions();
            }
            for (int position = 0; position < program.instructions; position++) {
                cutIntoPieces(program.at(position), position);
                touchPartitions(program.at(position), position);
            }
            markLive(program);
        }

        private void collectRanges(Instruction instruction, int position) {
            Layout layout = layoutOf(instruction.record);
            if (instruction.isLoadOrStore()) {
                layout.addAccess(instruction.offset, instruction.length);
            } else if (instruction.kind == ESCAPE) {
                layout.escaped = true;
            } else if (instruction.kind == COPY) {
                // The two ranges of a copy are different ranges even in one record.
                layout.addCopyRange(instruction.offset, instruction.length, 1L << (2 * position));
                layoutOf(instruction.source).addCopyRange(
                        instruction.sourceOffset, instruction.length, 1L << (2 * position + 1));
            }
        }

        private void cutIntoPieces(Instruction instruction, int position) {
            int end = instruction.kind == COPY ? instruction.length : 0;
            for (int step = MAX_SIZE - 1; step >= 0; step--) {
                pieces[position][step] = 0;
                if (step < end && beginsPiece(instruction, step)) {
                    pieces[position][step] = end - step;
                    end = step;
                }
            }
        }

        private boolean beginsPiece(Instruction copy, int step) {
            return step == 0
                    || layoutOf(copy.record).isStart(copy.offset + step)
                    || layoutOf(copy.source).isStart(copy.sourceOffset + step);
        }

        private void touchPartitions(Instruction instruction, int position) {
            if (instruction.isLoadOrStore()) {
                Partition accessed = target(instruction, 0);
                accessed.touchWith(instruction.length);
                accessed.live |= instruction.kind == LOAD;
            }
            for (int step = 0; step < MAX_SIZE; step++) {
                int length = pieces[position][step];
                if (length > 0) {
                    target(instruction, step).touchWith(length);
                    origin(instruction, step).touchWith(length);
                }
            }
        }

        /** Each round but the last makes a partition live, so there are few rounds. */
        private void markLive(Program program) {
            boolean changed = true;
            for (int round = 0; changed && round <= MAX_RECORDS * MAX_SIZE; round++) {
                changed = false;
                // Backwards, since most chains of copies then need one round alone.
                for (int position = program.instructions - 1; position >= 0; position--) {
                    changed |= passLifeToOrigins(program.at(position), position);
                }
            }
        }

        private boolean passLifeToOrigins(Instruction copy, int position) {
            boolean changed = false;
            for (int step = 0; step < MAX_SIZE; step++) {
                if (pieces[position][step] > 0 && target(copy, step).live && !origin(copy, step).live) {
                    origin(copy, step).live = true;
                    changed = true;
                }
            }
            return changed;
        }

        /** The partition that a LOAD, a STORE or a COPY's destination has at this step of its range. */
        Partition target(Instruction instruction, int step) {
            return layoutOf(instruction.record).holding(instruction.offset + step);
        }

        Partition origin(Instruction copy, int step) {
            return layoutOf(copy.source).holding(copy.sourceOffset + step);
        }

        int countPieces(int position) {
            int count = 0;
            for (int step = 0; step < MAX_SIZE; step++) {
                count += oneIf(pieces[position][step] > 0);
            }
            return count;
        }

        /** 0 if there is no such piece. */
        int lengthOfPiece(int position, int piece) {
            int before = 0;
            for (int step = 0; step < MAX_SIZE; step++) {
                int length = pieces[position][step];
                if (length > 0) {
                    if (before == piece) {
                        return length;
                    }
                    before++;
                }
            }
            return 0;
        }
    }

    /**
     * One run of the program. Partitions have no byte in common, so in the transformed form too each
     * of them lies at its own place in its record's row; what is not live is never written.
     */
    private static final class Run {
        final Program program;
        final Analysis analysis;
        final int[] registers = new int[REGISTERS];
        final int[][] bytes = new int[MAX_RECORDS][MAX_SIZE];
        final int[] outputs = new int[MAX_INSTRUCTIONS];
        boolean transformed;
        int outputTotal;
        int sum;
        int price;
        int trap;
        /** The first instruction that a SKIP lets execute again. */
        int resume;

        Run(Program program, Analysis analysis) {
            this.program = program;
            this.analysis = analysis;
        }

        void execute(boolean inTransformedForm) {
            clear(inTransformedForm);
            for (int position = 0; position < program.instructions && trap == NONE; position++) {
                if (position >= resume) {
                    perform(program.at(position), position);
                }
            }
        }

        int outputOf(int index) {
            return index >= 0 && index < outputTotal ? outputs[index] : 0;
        }

        private void clear(boolean inTransformedForm) {
            for (int register = 0; register < REGISTERS; register++) {
                registers[register] = 0;
            }
            for (int record = 0; record < MAX_RECORDS; record++) {
                for (int offset = 0; offset < MAX_SIZE; offset++) {
                    bytes[record][offset] = 0;
                }
            }
            transformed = inTransformedForm;
            outputTotal = 0;
            sum = 0;
            price = 0;
            trap = NONE;
            resume = 0;
        }

        private void perform(Instruction instruction, int position) {
            switch (instruction.kind) {
                case STORE:
                    store(instruction);
                    break;
                case LOAD:
                    load(instruction);
                    break;
                case COPY:
                    if (transformed) {
                        copyLivePieces(instruction, analysis.pieces[position]);
                    } else {
                        copyWhole(instruction);
                    }
                    break;
                case ESCAPE:
                    escape(instruction.record);
                    break;
                case CONSTANT:
                    registers[instruction.register] = instruction.number;
                    break;
                case ADD:
                    add(instruction, position);
                    break;
                case SKIP:
                    if (registers[instruction.register] == 0) {
                        resume = position + 1 + instruction.number;
                    }
                    break;
                case OUTPUT:
                    output(registers[instruction.register]);
                    break;
                default:
                    break;
            }
        }

        private void store(Instruction store) {
            Partition partition = analysis.target(store, 0);
            if (transformed && !partition.live) {
                return;
            }
            int value = registers[store.register];
            for (int step = 0; step < store.length; step++) {
                bytes[store.record][store.offset + step] = value >>> (8 * step) & 255;
            }
            price += priceOfAccess(partition);
        }

        private void load(Instruction load) {
            int value = 0;
            for (int step = 0; step < load.length; step++) {
                value |= bytes[load.record][load.offset + step] << (8 * step);
            }
            registers[load.register] = value;
            price += priceOfAccess(analysis.target(load, 0));
        }

        private int priceOfAccess(Partition partition) {
            return transformed && partition.promotable ? 0 : 1;
        }

        private void copyWhole(Instruction copy) {
            moveBytes(copy, 0, copy.length);
            price += copy.length;
        }

        private void copyLivePieces(Instruction copy, int[] lengths) {
            for (int step = 0; step < copy.length; step++) {
                Partition target = analysis.target(copy, step);
                if (lengths[step] > 0 && target.live) {
                    moveBytes(copy, step, lengths[step]);
                    price += priceOfPiece(target, analysis.origin(copy, step), lengths[step]);
                }
            }
        }

        private static int priceOfPiece(Partition target, Partition origin, int length) {
            if (target.promotable && origin.promotable) {
                return 0;
            }
            return target.promotable || origin.promotable ? 1 : length;
        }

        private void moveBytes(Instruction copy, int firstStep, int length) {
            for (int step = firstStep; step < firstStep + length; step++) {
                bytes[copy.record][copy.offset + step] = bytes[copy.source][copy.sourceOffset + step];
            }
        }

        private void escape(int record) {
            int size = program.sizeOf(record);
            for (int offset = 0; offset < size; offset++) {
                sum = 31 * sum + bytes[record][offset];
            }
            bytes[record][0] = bytes[record][0] + 1 & 255;
            price += size;
        }

        private void add(Instruction add, int position) {
            long exact = (long) registers[add.first] + registers[add.second];
            if (exact == (int) exact) {
                registers[add.register] = (int) exact;
            } else {
                trap = position;
            }
        }

        private void output(int value) {
            if (outputTotal < MAX_INSTRUCTIONS) {
                outputs[outputTotal] = value;
                outputTotal++;
            }
        }
    }
}
