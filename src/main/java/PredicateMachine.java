/**
 * A processor with predicates on all its instructions, registers that rotate with loops, frames of
 * stacked registers that spill to a backing store and come back, and a NAT bit for each register.
 */
public final class PredicateMachine {
    private static final int NOTHING = 0;
    private static final int SET = 1;
    private static final int ADD = 2;
    private static final int SUBTRACT = 3;
    private static final int MULTIPLY = 4;
    private static final int AND = 5;
    private static final int LESS = 6;
    private static final int SAME = 7;
    private static final int LOAD = 8;
    private static final int ADVANCE = 9;
    private static final int STORE = 10;
    private static final int KEEP = 11;
    private static final int BRING = 12;
    private static final int CHECK = 13;
    private static final int BRANCH = 14;
    private static final int CALL = 15;
    private static final int RETURN = 16;
    private static final int FRAME = 17;
    private static final int COUNT = 18;
    private static final int TURN = 19;
    private static final int END = 20;

    // What a number of an instruction stands for.
    private static final int FREE = 0;
    private static final int READ = 1;
    private static final int WRITTEN = 2;
    private static final int PREDICATES = 3;
    private static final int TARGET = 4;

    // One entry for each operation, in the order of their numbers.
    private static final int[] KINDS_OF_A = {
        FREE, WRITTEN, WRITTEN, WRITTEN, WRITTEN, WRITTEN, PREDICATES, PREDICATES, WRITTEN, WRITTEN,
        READ, READ, WRITTEN, READ, TARGET, TARGET, FREE, FREE, FREE, TARGET, FREE
    };
    private static final int[] KINDS_OF_B = {
        FREE, FREE, READ, READ, READ, READ, READ, READ, READ, READ,
        READ, READ, READ, TARGET, FREE, FREE, FREE, FREE, FREE, FREE, FREE
    };
    private static final int[] KINDS_OF_C = {
        FREE, FREE, READ, READ, READ, READ, READ, READ, FREE, FREE,
        FREE, FREE, FREE, FREE, FREE, FREE, FREE, FREE, FREE, FREE, FREE
    };

    private static final int REGISTER_COUNT = 32;
    private static final int FIRST_STACKED = 8;
    private static final int PREDICATE_COUNT = 16;
    private static final int FIRST_TURNING = 8;
    private static final int TURNING_COUNT = 8;
    private static final int HIGHEST_ROTATION = 15;
    private static final int CELL_COUNT = 32;
    private static final int DRAFT_LIMIT = 40;
    private static final int FRAME_LIMIT = 24;
    private static final int COUNT_LIMIT = 20;
    private static final int PHYSICAL = 24;
    private static final int ROW_LIMIT = 120;
    private static final int CALL_LIMIT = 40;
    private static final int BUDGET_LIMIT = 500;

    private static final int NO_FAULT = 0;
    private static final int BAD_NUMBER = 1;
    private static final int BAD_GROUP = 2;
    private static final int BAD_LAST = 3;
    private static final int EMPTY_DRAFT = 4;

    private static final int GOES_ON = -1;
    private static final int ENDED = 0;
    private static final int NO_REGISTER = 1;
    private static final int NO_CELL = 2;
    private static final int NAT_USED = 3;
    private static final int TOO_DEEP = 4;
    private static final int BUDGET_SPENT = 5;

    private final Inspection inspection;
    private final Registers registers;
    private final Predicates predicates;
    private final Cells cells;
    private Listing draft;
    private Listing program;
    private int next;
    private boolean ended;
    private int loopCount;
    private int endCount;

    public PredicateMachine() {
        inspection = new Inspection();
        registers = new Registers();
        predicates = new Predicates();
        cells = new Cells(CELL_COUNT);
        draft = new Listing();
        program = new Listing();
    }

    public int instruction(int operation, int q, int a, int b, int c, boolean stop)
            throws IllegalArgumentException, IllegalStateException {
        if (operation < NOTHING || operation > END) {
            throw new IllegalArgumentException("no such operation");
        }
        if (q < 0 || q >= PREDICATE_COUNT) {
            throw new IllegalArgumentException("no such predicate");
        }
        if (draft.size() >= DRAFT_LIMIT) {
            throw new IllegalStateException("the draft is full");
        }
        draft.add(new Instruction(operation, q, a, b, c, stop));
        return draft.size();
    }

    public int take() throws IllegalArgumentException {
        inspection.inspect(draft);
        if (inspection.found != NO_FAULT) {
            draft.clear();
            throw new IllegalArgumentException("the draft has a fault or is empty");
        }
        // The two listings change places, so that a taking makes no new rows.
        Listing former = program;
        program = draft;
        draft = former;
        draft.clear();
        beginAnew();
        return inspection.groups;
    }

    public int fault(int what) throws IllegalArgumentException {
        if (what == 0) {
            return inspection.found;
        }
        if (what == 1) {
            return inspection.foundAt;
        }
        throw new IllegalArgumentException("no such what");
    }

    public int run(int budget) throws IllegalArgumentException, IllegalStateException {
        if (budget < 1 || budget > BUDGET_LIMIT) {
            throw new IllegalArgumentException("no such budget");
        }
        if (program.size() == 0 || ended) {
            throw new IllegalStateException("there is nothing to run");
        }
        for (int seen = 0; seen < budget; seen++) {
            int end = step();
            if (end != GOES_ON) {
                return end;
            }
        }
        return BUDGET_SPENT;
    }

    public void set(int register, long value) throws IllegalArgumentException {
        if (register < 1 || register >= FIRST_STACKED) {
            throw new IllegalArgumentException("no static register that can be set");
        }
        registers.write(register, value, false);
    }

    public long register(int register) throws IllegalArgumentException {
        if (!registers.has(register)) {
            throw new IllegalArgumentException("no such register now");
        }
        return registers.valueOf(register);
    }

    public boolean nat(int register) throws IllegalArgumentException {
        if (!registers.has(register)) {
            throw new IllegalArgumentException("no such register now");
        }
        return registers.natOf(register);
    }

    public boolean predicate(int predicate) throws IllegalArgumentException {
        if (predicate < 0 || predicate >= PREDICATE_COUNT) {
            throw new IllegalArgumentException("no such predicate");
        }
        return predicates.isTrue(predicate, registers.current.rotation);
    }

    public long memory(int cell) throws IllegalArgumentException {
        if (!cells.has(cell)) {
            throw new IllegalArgumentException("no such cell");
        }
        return cells.valueAt(cell);
    }

    public void poke(int cell, long value) throws IllegalArgumentException {
        if (!cells.has(cell)) {
            throw new IllegalArgumentException("no such cell");
        }
        cells.write(cell, value, false);
    }

    public int look(int what) throws IllegalArgumentException {
        switch (what) {
            case 0:
                return next;
            case 1:
                return registers.current.size;
            case 2:
                return registers.current.outs;
            case 3:
                return registers.current.turns;
            case 4:
                return registers.current.rotation;
            case 5:
                return registers.called;
            case 6:
                return loopCount;
            case 7:
                return endCount;
            case 8:
                return registers.spilled;
            case 9:
                return registers.filled;
            case 10:
                return registers.current.base;
            case 11:
                return registers.lowestHeld;
            default:
                throw new IllegalArgumentException("no such what");
        }
    }

    public long backing(int k) throws IllegalArgumentException {
        if (!registers.store.has(k)) {
            throw new IllegalArgumentException("no such place of the row");
        }
        return registers.store.valueAt(k);
    }

    private void beginAnew() {
        registers.clearStack();
        predicates.clear();
        next = 0;
        ended = false;
        loopCount = 0;
        endCount = 0;
    }

    private int step() {
        Instruction now = program.at(next);
        // A program that was taken never goes on beyond its last instruction.
        if (now == null) {
            return finish();
        }
        if (!predicates.isTrue(now.q, registers.current.rotation)) {
            return goOnAt(next + 1);
        }
        if (namesMissingRegister(now)) {
            return NO_REGISTER;
        }
        switch (now.operation) {
            case CHECK:
                return goOnAt(registers.natOf(now.a) ? now.b : next + 1);
            case BRANCH:
                return goOnAt(now.a);
            case CALL:
                return registers.enterFrame(next + 1) ? goOnAt(now.a) : TOO_DEEP;
            case RETURN:
                return registers.called == 0 ? finish() : goOnAt(registers.leaveFrame());
            case TURN:
                return turn(now.a);
            case END:
                return finish();
            default:
                // A fault leaves everything as it was, the place to go on at too.
                int end = work(now);
                return end == GOES_ON ? goOnAt(next + 1) : end;
        }
    }

    private boolean namesMissingRegister(Instruction now) {
        return isMissing(now.kindOfA(), now.a)
                || isMissing(now.kindOfB(), now.b)
                || isMissing(now.kindOfC(), now.c);
    }

    private boolean isMissing(int kind, int number) {
        return (kind == READ || kind == WRITTEN) && !registers.has(number);
    }

    private int goOnAt(int target) {
        next = target;
        return GOES_ON;
    }

    private int finish() {
        ended = true;
        return ENDED;
    }

    private int turn(int target) {
        boolean looping = loopCount > 0;
        boolean again = looping || endCount > 1;
        if (looping) {
            loopCount--;
        } else if (endCount > 0) {
            endCount--;
        } else {
            return goOnAt(next + 1);
        }
        registers.rotate();
        predicates.write(FIRST_TURNING, registers.current.rotation, looping);
        return goOnAt(again ? target : next + 1);
    }

    private int work(Instruction now) {
        switch (now.operation) {
            case SET:
                registers.write(now.a, now.b, false);
                return GOES_ON;
            case ADD:
            case SUBTRACT:
            case MULTIPLY:
            case AND:
                return calculate(now);
            case LESS:
            case SAME:
                return compare(now);
            case LOAD:
            case BRING:
                return load(now);
            case ADVANCE:
                return advance(now);
            case STORE:
            case KEEP:
                return store(now);
            case FRAME:
                return registers.reshape(now.a, now.b, now.c) ? GOES_ON : TOO_DEEP;
            case COUNT:
                loopCount = now.a;
                endCount = now.b;
                return GOES_ON;
            default:
                return GOES_ON;
        }
    }

    private int calculate(Instruction now) {
        long r = registers.valueOf(now.b);
        long s = registers.valueOf(now.c);
        boolean nat = registers.natOf(now.b) || registers.natOf(now.c);
        registers.write(now.a, result(now.operation, r, s), nat);
        return GOES_ON;
    }

    private static long result(int operation, long r, long s) {
        switch (operation) {
            case ADD:
                return r + s;
            case SUBTRACT:
                return r - s;
            case MULTIPLY:
                return r * s;
            default:
                return r & s;
        }
    }

    private int compare(Instruction now) {
        long r = registers.valueOf(now.b);
        long s = registers.valueOf(now.c);
        boolean known = !registers.natOf(now.b) && !registers.natOf(now.c);
        boolean holds = now.operation == LESS ? r < s : r == s;
        int rotation = registers.current.rotation;
        predicates.write(now.a, rotation, known && holds);
        predicates.write(now.a + 1, rotation, known && !holds);
        return GOES_ON;
    }

    private int load(Instruction now) {
        if (registers.natOf(now.b)) {
            return NAT_USED;
        }
        long address = registers.valueOf(now.b);
        if (!cells.has(address)) {
            return NO_CELL;
        }
        boolean nat = now.operation == BRING && cells.natAt(address);
        registers.write(now.a, cells.valueAt(address), nat);
        return GOES_ON;
    }

    private int advance(Instruction now) {
        long address = registers.valueOf(now.b);
        if (registers.natOf(now.b) || !cells.has(address)) {
            registers.write(now.a, 0, true);
        } else {
            registers.write(now.a, cells.valueAt(address), false);
        }
        return GOES_ON;
    }

    private int store(Instruction now) {
        boolean nat = registers.natOf(now.b);
        if (registers.natOf(now.a) || (now.operation == STORE && nat)) {
            return NAT_USED;
        }
        long address = registers.valueOf(now.a);
        if (!cells.has(address)) {
            return NO_CELL;
        }
        cells.write(address, registers.valueOf(now.b), nat);
        return GOES_ON;
    }

    /** One instruction, which never changes. */
    private static final class Instruction {
        private final int operation;
        private final int q;
        private final int a;
        private final int b;
        private final int c;
        private final boolean stop;

        Instruction(int operation, int q, int a, int b, int c, boolean stop) {
            this.operation = operation;
            this.q = q;
            this.a = a;
            this.b = b;
            this.c = c;
            this.stop = stop;
        }

        int kindOfA() {
            return kindIn(KINDS_OF_A);
        }

        int kindOfB() {
            return kindIn(KINDS_OF_B);
        }

        int kindOfC() {
            return kindIn(KINDS_OF_C);
        }

        private int kindIn(int[] kinds) {
            return operation >= 0 && operation < kinds.length ? kinds[operation] : FREE;
        }

        int registersOf(int kind) {
            int bits = 0;
            if (kindOfA() == kind) {
                bits |= 1 << a;
            }
            if (kindOfB() == kind) {
                bits |= 1 << b;
            }
            if (kindOfC() == kind) {
                bits |= 1 << c;
            }
            return bits;
        }

        int predicatesRead() {
            return 1 << q;
        }

        // Two neighbours are written; predicate 8 of a TURN is left out, as it does not count.
        int predicatesWritten() {
            return kindOfA() == PREDICATES ? 3 << a : 0;
        }

        boolean mustEndGroup() {
            return operation == FRAME || operation == COUNT || operation == CALL
                    || operation == RETURN || operation == TURN;
        }

        boolean mayEndProgram() {
            boolean leaves = operation == BRANCH || operation == RETURN || operation == END;
            return leaves && stop && q == 0;
        }
    }

    /** The instructions of a draft or of a program. */
    private static final class Listing {
        private final Instruction[] lines = new Instruction[DRAFT_LIMIT];
        private int count;

        int size() {
            return count;
        }

        void add(Instruction line) {
            if (count >= 0 && count < lines.length) {
                lines[count] = line;
                count++;
            }
        }

        Instruction at(int index) {
            return index >= 0 && index < count && index < lines.length ? lines[index] : null;
        }

        void clear() {
            count = 0;
        }
    }

    /** What the latest taking found: the first fault and where it is, or how many groups there are. */
    private static final class Inspection {
        private int found = NO_FAULT;
        private int foundAt = -1;
        private int groups;
        // A bit for each register and predicate that the group has written so far.
        private int writtenRegisters;
        private int writtenPredicates;
        private boolean groupOver;

        void inspect(Listing listing) {
            int count = listing.size();
            found = count == 0 ? EMPTY_DRAFT : NO_FAULT;
            foundAt = -1;
            groups = 0;
            beginGroup();
            for (int i = 0; i < count && found == NO_FAULT; i++) {
                found = faultOf(listing.at(i), i, count);
                if (found != NO_FAULT) {
                    foundAt = i;
                }
            }
        }

        private int faultOf(Instruction line, int index, int count) {
            if (line == null || !numbersFit(line, count)) {
                return BAD_NUMBER;
            }
            if (clashes(line)) {
                return BAD_GROUP;
            }
            if (index == count - 1 && !line.mayEndProgram()) {
                return BAD_LAST;
            }
            addToGroup(line);
            return NO_FAULT;
        }

        private static boolean numbersFit(Instruction line, int count) {
            if (line.operation == FRAME) {
                return frameFits(line);
            }
            if (line.operation == COUNT) {
                return isWithin(line.a, 0, COUNT_LIMIT) && isWithin(line.b, 0, COUNT_LIMIT);
            }
            return fits(line.kindOfA(), line.a, count)
                    && fits(line.kindOfB(), line.b, count)
                    && fits(line.kindOfC(), line.c, count);
        }

        private static boolean frameFits(Instruction line) {
            boolean turnsKnown = line.c == 0 || line.c == 8 || line.c == 16;
            return isWithin(line.a, 0, FRAME_LIMIT) && isWithin(line.b, 0, line.a)
                    && turnsKnown && line.c <= line.a;
        }

        private static boolean fits(int kind, int number, int count) {
            switch (kind) {
                case READ:
                    return isWithin(number, 0, REGISTER_COUNT - 1);
                case WRITTEN:
                    return isWithin(number, 1, REGISTER_COUNT - 1);
                case PREDICATES:
                    // The neighbour above is written too, and predicate 0 never is.
                    return isWithin(number, 1, PREDICATE_COUNT - 2);
                case TARGET:
                    return isWithin(number, 0, count - 1);
                default:
                    return true;
            }
        }

        private static boolean isWithin(int number, int lowest, int highest) {
            return number >= lowest && number <= highest;
        }

        private boolean clashes(Instruction line) {
            int usedRegisters = line.registersOf(READ) | line.registersOf(WRITTEN);
            int usedPredicates = line.predicatesRead() | line.predicatesWritten();
            return groupOver
                    || (usedRegisters & writtenRegisters) != 0
                    || (usedPredicates & writtenPredicates) != 0;
        }

        private void addToGroup(Instruction line) {
            if (line.stop) {
                groups++;
                beginGroup();
                return;
            }
            writtenRegisters |= line.registersOf(WRITTEN);
            writtenPredicates |= line.predicatesWritten();
            groupOver = line.mustEndGroup();
        }

        private void beginGroup() {
            writtenRegisters = 0;
            writtenPredicates = 0;
            groupOver = false;
        }
    }

    /** Longs with a NAT bit each; what is outside reads as 0 without NAT and is never written. */
    private static final class Cells {
        private final long[] values;
        private final boolean[] nats;

        Cells(int length) {
            int room = Math.max(length, 0);
            values = new long[room];
            nats = new boolean[room];
        }

        // Takes a long, so that an address is tested before it is made an int.
        boolean has(long index) {
            return index >= 0 && index < values.length && index < nats.length;
        }

        long valueAt(long index) {
            return has(index) ? values[(int) index] : 0;
        }

        boolean natAt(long index) {
            return has(index) && nats[(int) index];
        }

        void write(long index, long value, boolean nat) {
            if (has(index)) {
                values[(int) index] = value;
                nats[(int) index] = nat;
            }
        }

        void clearFrom(int first, int end) {
            for (int i = first; i < end; i++) {
                write(i, 0, false);
            }
        }
    }

    /** Where a frame stands in the row, how it is parted, and where its latest CALL comes back to. */
    private static final class Frame {
        private int base;
        private int size;
        private int outs;
        private int turns;
        private int rotation;
        private int comesBackTo;

        void begin(int newBase, int newSize) {
            base = newBase;
            size = newSize;
            outs = 0;
            turns = 0;
            rotation = 0;
            comesBackTo = 0;
        }

        int end() {
            return base + size;
        }

        int placeOf(int k) {
            boolean turning = turns > 0 && k < turns;
            return base + (turning ? (k + rotation) % turns : k);
        }
    }

    /**
     * The static registers, and the row of stacked ones with its backing store. Only the current
     * frame is ever looked at, and it is always held whole, since it has at most as many registers
     * as there are physical ones: lowestHeld is never above its base.
     */
    private static final class Registers {
        private final Cells fixed = new Cells(FIRST_STACKED);
        private final Cells row = new Cells(ROW_LIMIT);
        private final Cells store = new Cells(ROW_LIMIT);
        // Frames are made once and used again, so that a CALL makes no object.
        private final Frame[] frames = new Frame[CALL_LIMIT + 1];
        private Frame current;
        private int called;
        private int lowestHeld;
        private int spilled;
        private int filled;

        Registers() {
            for (int i = 0; i < frames.length; i++) {
                frames[i] = new Frame();
            }
            current = frames[0];
        }

        void clearStack() {
            row.clearFrom(0, ROW_LIMIT);
            store.clearFrom(0, ROW_LIMIT);
            current = frames[0];
            current.begin(0, 0);
            called = 0;
            lowestHeld = 0;
            spilled = 0;
            filled = 0;
        }

        boolean has(int register) {
            return register >= 0 && register < FIRST_STACKED + current.size;
        }

        long valueOf(int register) {
            return register < FIRST_STACKED
                    ? fixed.valueAt(register)
                    : row.valueAt(current.placeOf(register - FIRST_STACKED));
        }

        boolean natOf(int register) {
            return register < FIRST_STACKED
                    ? fixed.natAt(register)
                    : row.natAt(current.placeOf(register - FIRST_STACKED));
        }

        void write(int register, long value, boolean nat) {
            if (register >= FIRST_STACKED) {
                row.write(current.placeOf(register - FIRST_STACKED), value, nat);
            } else if (register != 0) {
                fixed.write(register, value, nat);
            }
        }

        void rotate() {
            current.rotation = current.rotation == 0 ? HIGHEST_ROTATION : current.rotation - 1;
        }

        boolean reshape(int size, int outs, int turns) {
            if (current.base + size > ROW_LIMIT) {
                return false;
            }
            int formerEnd = current.end();
            current.size = size;
            current.outs = outs;
            current.turns = turns;
            row.clearFrom(formerEnd, current.end());
            spillBelow(current.end() - PHYSICAL);
            return true;
        }

        boolean enterFrame(int comesBackTo) {
            int index = called + 1;
            if (index < 1 || index >= frames.length) {
                return false;
            }
            current.comesBackTo = comesBackTo;
            Frame entered = frames[index];
            entered.begin(current.end() - current.outs, current.outs);
            current = entered;
            called = index;
            return true;
        }

        // Nothing is spilled here: the frame was held whole with all above lowestHeld when it
        // called, and lowestHeld never falls below what that allowed.
        int leaveFrame() {
            int index = called - 1;
            if (index < 0 || index >= frames.length) {
                return 0;
            }
            int leftEnd = current.end();
            current = frames[index];
            called = index;
            row.clearFrom(leftEnd, current.end());
            fillDownTo(current.base);
            return current.comesBackTo;
        }

        private void spillBelow(int end) {
            for (int place = lowestHeld; place < end; place++) {
                store.write(place, row.valueAt(place), row.natAt(place));
                spilled++;
            }
            lowestHeld = Math.max(lowestHeld, end);
        }

        private void fillDownTo(int end) {
            for (int place = lowestHeld - 1; place >= end; place--) {
                row.write(place, store.valueAt(place), store.natAt(place));
                filled++;
            }
            lowestHeld = Math.min(lowestHeld, end);
        }
    }

    /** The predicates; the rotation of the current frame says which of the upper ones is meant. */
    private static final class Predicates {
        private final boolean[] truths = new boolean[PREDICATE_COUNT];

        boolean isTrue(int predicate, int rotation) {
            int place = placeOf(predicate, rotation);
            return predicate == 0 || (place >= 0 && place < truths.length && truths[place]);
        }

        void write(int predicate, int rotation, boolean truth) {
            int place = placeOf(predicate, rotation);
            if (place >= 0 && place < truths.length) {
                truths[place] = truth;
            }
        }

        void clear() {
            for (int i = 0; i < truths.length; i++) {
                truths[i] = false;
            }
        }

        private static int placeOf(int predicate, int rotation) {
            return predicate < FIRST_TURNING
                    ? predicate
                    : FIRST_TURNING + (predicate - FIRST_TURNING + rotation) % TURNING_COUNT;
        }
    }
}
