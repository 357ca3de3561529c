/** All promises at once: long runs of mixed calls, each answered by the class and by PlainModel. */
final class RandomRunsTest {
    private static final int OBJECTS = 5000;
    // What an object answers behind its 512th call is free; as many as compareAll makes are kept for it.
    private static final int LAST_CALL = 512;
    private static final int KEPT_FOR_THE_END = 260;
    private static final int[] EDGES = {
        Integer.MIN_VALUE, -1, 0, 7, 8, 11, 12, 15, 16, 24, 31, 32, 40, 119, 120, 500, 501, Integer.MAX_VALUE
    };

    private final Expect expect;
    // The same numbers in each run of the test, so that what fails once fails again.
    private long state;
    private PredicateMachine machine;
    private PlainModel model;
    private String story;
    private int calls;
    private final int[] endings = new int[6];
    private int taken;
    private int spilling;
    private int filling;

    private RandomRunsTest(Expect expect, long seed) {
        this.expect = expect;
        this.state = seed;
    }

    public static void main(String[] args) {
        Expect expect = new Expect("RandomRunsTest");
        RandomRunsTest test = new RandomRunsTest(expect, args.length > 0 ? Long.parseLong(args[0]) : 20261116);
        for (int i = 0; i < OBJECTS; i++) {
            test.oneObject(i);
        }
        test.reachedMuch();
        expect.end();
    }

    private int below(int bound) {
        state += 0x9E3779B97F4A7C15L;
        long mixed = (state ^ (state >>> 30)) * 0xBF58476D1CE4E5B9L;
        mixed = (mixed ^ (mixed >>> 27)) * 0x94D049BB133111EBL;
        return (int) Long.remainderUnsigned(mixed ^ (mixed >>> 31), bound);
    }

    private boolean oneIn(int n) {
        return below(n) == 0;
    }

    private int among(int... choices) {
        return choices[below(choices.length)];
    }

    private String both(String call, Expect.Answer got, Expect.Answer due) {
        calls++;
        if (calls > LAST_CALL) {
            throw new IllegalStateException("the test makes more calls than are promised to be answered");
        }
        String answer = Expect.answer(got);
        expect.same(story + call, answer, Expect.answer(due));
        return answer;
    }

    private void oneObject(int i) {
        machine = new PredicateMachine();
        model = new PlainModel();
        story = "object " + i + ": ";
        calls = 0;
        int programs = 1 + below(4);
        for (int p = 0; p < programs && roomFor(100); p++) {
            writeSomeDraft();
            if (both("take", machine::take, model::take).startsWith("throws")) {
                both("fault 0", () -> machine.fault(0), () -> model.fault(0));
                both("fault 1", () -> machine.fault(1), () -> model.fault(1));
            } else {
                taken++;
            }
            int runs = 1 + below(6);
            for (int r = 0; r < runs && roomFor(60); r++) {
                hostWrites();
                runSome();
                compareSome();
            }
        }
        spilling += model.look(8) > 0 ? 1 : 0;
        filling += model.look(9) > 0 ? 1 : 0;
        compareAll();
    }

    private boolean roomFor(int more) {
        return calls + more + KEPT_FOR_THE_END <= LAST_CALL;
    }

    private void writeSomeDraft() {
        if (oneIn(3)) {
            writeCallingDraft();
        } else if (oneIn(3)) {
            writeMemoryDraft();
        } else {
            writeDraft(oneIn(3));
        }
    }

    private void runSome() {
        int budget = oneIn(20) ? among(EDGES) : 1 + below(oneIn(3) ? 200 : 12);
        String end = both("run " + budget, () -> machine.run(budget), () -> model.run(budget));
        if (end.length() == 1) {
            endings[Integer.parseInt(end)]++;
        }
    }

    private void writeDraft(boolean wild) {
        int count = oneIn(15) ? 42 : below(16);
        if (!wild) {
            add(Code.FRAME, 0, 8 + below(17), below(9), among(0, 8), true);
        }
        for (int i = 0; i < count; i++) {
            addSome(count + 2, wild);
        }
        add(among(Code.END, Code.RETURN, Code.BRANCH), 0, below(3), 0, 0, true);
    }

    // Calls itself as often as register 7 says, with something before and behind each call.
    private void writeCallingDraft() {
        int size = 6 + below(19);
        int turns = size >= 16 ? among(0, 8, 16) : size >= 8 ? among(0, 8) : 0;
        add(Code.FRAME, 0, size, below(size / 2), turns, true);
        add(Code.SET, 0, 6, 1, 0, true);
        add(Code.SUBTRACT, 0, 7, 7, 6, true);
        addWork(1 + below(6));
        add(Code.LESS, 0, 1, 0, 7, true);
        add(Code.CALL, 1, 0, 0, 0, true);
        addWork(1 + below(6));
        if (oneIn(3)) {
            add(Code.FRAME, 0, below(size), 0, 0, true);
        }
        add(Code.RETURN, 0, 0, 0, 0, true);
        both("set 7", () -> {
            machine.set(7, 9);
            return 0;
        }, () -> {
            model.set(7, 9);
            return 0;
        });
    }

    // Few registers and cells, with NAT in some of them, so that they meet.
    private void writeMemoryDraft() {
        add(Code.SET, 0, 1, 31 + below(3), 0, true);
        add(Code.ADVANCE, 0, 2, 1, 0, true);
        int count = 5 + below(15);
        for (int i = 0; i < count; i++) {
            int operation = among(1, 2, 3, 6, 8, 8, 9, 9, 10, 10, 11, 11, 12, 12, 13);
            int a = operation == Code.CHECK || oneIn(2) ? 1 + below(5) : 3 + below(3);
            int b = operation == Code.SET ? below(34) : operation == Code.CHECK ? i + 3 : below(6);
            add(operation, oneIn(6) ? 1 + below(5) : 0, a, b, below(6), true);
        }
        add(Code.END, 0, 0, 0, 0, true);
    }

    private void addWork(int times) {
        for (int i = 0; i < times; i++) {
            int a = among(1, 2, 3, 8, 9, 10, 11, 12, 13);
            int b = among(0, 1, 2, 3, 6, 7, 7, 8, 9, 10, 11, 12, 13);
            int kind = below(6);
            if (kind == 0) {
                add(Code.COUNT, 0, 1 + below(3), 0, 0, true);
                add(Code.TURN, 0, below(3) + 3, 0, 0, true);
            } else if (kind == 1) {
                add(Code.SET, 0, 3, 33, 0, true);
                add(Code.ADVANCE, 0, a, 3, 0, true);
            } else if (kind == 2) {
                add(Code.KEEP, 0, 6, b, 0, true);
                add(Code.BRING, 0, a, 6, 0, true);
            } else {
                add(among(Code.ADD, Code.SUBTRACT, Code.MULTIPLY, Code.AND), 0, a, b, 7, true);
            }
        }
    }

    private void addSome(int count, boolean wild) {
        int operation = oneIn(3) ? among(9, 9, 13, 14, 15, 15, 15, 16, 17, 17, 18, 19) : below(20);
        boolean stop = !oneIn(wild ? 2 : 12);
        int q = oneIn(3) ? below(16) : 0;
        if (operation == Code.FRAME) {
            int size = below(25);
            int turns = size >= 16 ? among(0, 8, 16) : size >= 8 ? among(0, 8) : 0;
            add(operation, q, size, below(size + 1), turns, stop);
        } else if (operation == Code.COUNT) {
            add(operation, q, below(4), below(4), 0, stop);
        } else if (operation == Code.LESS || operation == Code.SAME) {
            add(operation, q, 1 + below(14), register(), register(), stop);
        } else if (operation == Code.CHECK) {
            add(operation, q, register(), below(count), 0, stop);
        } else if (operation >= Code.BRANCH) {
            add(operation, q, below(count), 0, 0, stop);
        } else if (operation == Code.SET) {
            add(operation, q, Math.max(1, register()), oneIn(3) ? among(EDGES) : below(36), 0, stop);
        } else {
            add(operation, q, Math.max(1, register()), register(), register(), stop);
        }
        if (wild && oneIn(20)) {
            add(below(21), below(16), among(EDGES), among(EDGES), among(EDGES), true);
        }
    }

    private int register() {
        return oneIn(30) ? below(33) : oneIn(2) ? below(4) : below(14);
    }

    private void add(int operation, int q, int a, int b, int c, boolean stop) {
        both("instruction", () -> machine.instruction(operation, q, a, b, c, stop),
                () -> model.instruction(operation, q, a, b, c, stop));
    }

    private void hostWrites() {
        int times = below(5);
        for (int i = 0; i < times; i++) {
            int register = oneIn(12) ? among(EDGES) : below(9);
            int cell = oneIn(12) ? among(EDGES) : below(32);
            long value = oneIn(6) ? ((long) among(EDGES) << 32) + below(40) : below(36);
            both("set " + register, () -> {
                machine.set(register, value);
                return 0;
            }, () -> {
                model.set(register, value);
                return 0;
            });
            both("poke " + cell, () -> {
                machine.poke(cell, value);
                return 0;
            }, () -> {
                model.poke(cell, value);
                return 0;
            });
        }
    }

    private void compareSome() {
        for (int i = 0; i < 12; i++) {
            int what = i;
            int register = below(18);
            both("look " + what, () -> machine.look(what), () -> model.look(what));
            both("register " + register, () -> machine.register(register), () -> model.register(register).value());
        }
        int predicate = below(16);
        int cell = below(32);
        both("predicate " + predicate, () -> machine.predicate(predicate), () -> model.predicate(predicate));
        both("memory " + cell, () -> machine.memory(cell), () -> model.memory(cell));
    }

    private void compareAll() {
        for (int i = -1; i <= 32; i++) {
            int k = i;
            both("register " + k, () -> machine.register(k), () -> model.register(k).value());
            both("nat " + k, () -> machine.nat(k), () -> model.register(k).nat());
            both("memory " + k, () -> machine.memory(k), () -> model.memory(k));
        }
        for (int i = -1; i <= 16; i++) {
            int k = i;
            both("predicate " + k, () -> machine.predicate(k), () -> model.predicate(k));
            both("look " + k, () -> machine.look(k), () -> model.look(k));
        }
        for (int i = -1; i <= 120; i++) {
            int k = i;
            both("backing " + k, () -> machine.backing(k), () -> model.backing(k));
        }
    }

    // A comparison that never comes to the dear places would prove little.
    private void reachedMuch() {
        for (int end = 0; end < endings.length; end++) {
            expect.same("often ended with " + end, endings[end] > 100, true);
        }
        expect.same("often taken", taken > 500, true);
        expect.same("often spilled", spilling > 100, true);
        expect.same("often filled", filling > 100, true);
        System.out.println("RandomRunsTest: taken " + taken + ", spilling " + spilling + ", filling "
                + filling + ", endings " + java.util.Arrays.toString(endings));
    }
}
