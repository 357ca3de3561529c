/** The bounds that promises 1 to 13 name, and what stands after a call that is refused. */
final class BoundsOfPromisesTest {
    private static final int LOW = Integer.MIN_VALUE;
    private static final int HIGH = Integer.MAX_VALUE;
    private static final String ARGUMENT = "IllegalArgumentException";
    private static final String STATE = "IllegalStateException";

    public static void main(String[] args) {
        Expect expect = new Expect("BoundsOfPromisesTest");
        newObject(expect);
        operationsAndPredicates(expect);
        refusedInstructions(expect);
        fullDrafts(expect);
        groupsCounted(expect);
        emptyAfterTaking(expect);
        emptyAfterRefusal(expect);
        asAtTheBeginning(expect);
        refusedDrafts(expect);
        faults(expect);
        latestDraft(expect);
        budgets(expect);
        nothingToRun(expect);
        setting(expect);
        registersNow(expect);
        predicates(expect);
        memory(expect);
        poking(expect);
        looking(expect);
        farthestLooks(expect);
        sinceItWasTaken(expect);
        backing(expect);
        fiveHundredTwelveCalls(expect);
        expect.end();
    }

    // In the midst of a run: something is set, turned, called, spilled, and a draft is begun.
    private static PredicateMachine busy() {
        PredicateMachine machine = Code.fresh().line(Code.FRAME, 20, 4, 16).line(Code.COUNT, 3, 2)
                .line(Code.SET, 8, 77).line(Code.SAME, 3, 0, 0).line(Code.TURN, 5).line(Code.SET, 1, 32)
                .line(Code.ADVANCE, 27, 1).line(Code.KEEP, 0, 27).line(Code.CALL, 9)
                .line(Code.FRAME, 24, 1, 8).line(Code.SET, 31, 6).line(Code.END).taken();
        machine.set(7, -1);
        machine.poke(31, 55);
        machine.run(10);
        return new Code(machine).open(Code.NOTHING).machine;
    }

    private static PredicateMachine ended() {
        PredicateMachine machine = busy();
        machine.run(500);
        return machine;
    }

    private static PredicateMachine full() {
        Code code = new Code(busy());
        for (int i = 1; i < 40; i++) {
            code.line(Code.END);
        }
        return code.machine;
    }

    private static final Twins.Maker[] MAKERS = {
        PredicateMachine::new, BoundsOfPromisesTest::busy, BoundsOfPromisesTest::ended, BoundsOfPromisesTest::full
    };

    // Refused in whatever state the object is, and without a trace.
    private static void refused(Expect expect, String what, String exception, Twins.Calls calls) {
        for (int i = 0; i < MAKERS.length; i++) {
            Twins.refused(expect, what + " of object " + i, MAKERS[i], exception, calls);
        }
    }

    private static void newObject(Expect expect) {
        expect.sentence("No program; all registers, memory 0, without NAT; predicates false but for 0; "
                + "a frame of no registers; nothing called.");
        PredicateMachine machine = new PredicateMachine();
        for (int register = 0; register <= 7; register++) {
            expect.same("register " + register, machine.register(register), 0);
            expect.same("nat " + register, machine.nat(register), false);
        }
        for (int register = 8; register <= 31; register++) {
            int stacked = register;
            expect.badArgument("a frame of no registers", () -> machine.register(stacked));
            expect.badArgument("a frame of no registers", () -> machine.nat(stacked));
        }
        for (int p = 0; p <= 15; p++) {
            expect.same("predicate " + p, machine.predicate(p), p == 0);
        }
        for (int cell = 0; cell <= 31; cell++) {
            expect.same("memory " + cell, machine.memory(cell), 0);
        }
        for (int what = 0; what <= 11; what++) {
            expect.same("look " + what, machine.look(what), 0);
        }
        expect.badState("no program", () -> machine.run(1));
        expect.badArgument("no draft", machine::take);
        cellsWithoutNat(expect);
    }

    private static void cellsWithoutNat(Expect expect) {
        for (int cell = 0; cell <= 31; cell++) {
            PredicateMachine machine = Code.fresh().line(Code.SET, 1, cell).line(Code.BRING, 2, 1).line(Code.END).ran(9);
            expect.same("NAT of cell " + cell, machine.nat(2), false);
        }
    }

    private static final String INSTRUCTION = "IllegalArgumentException: operation is not 0 .. 20, or q not 0 .. 15; "
            + "IllegalStateException: there are 40.";

    private static void operationsAndPredicates(Expect expect) {
        expect.sentence("One more instruction in the draft: how many there are. " + INSTRUCTION);
        PredicateMachine machine = new PredicateMachine();
        int count = 0;
        for (int operation = 0; operation <= 20; operation++) {
            count++;
            expect.same("operation " + operation, machine.instruction(operation, 0, 0, 0, 0, false), count);
        }
        for (int q = 0; q <= 15; q++) {
            count++;
            expect.same("q " + q, machine.instruction(0, q, LOW, HIGH, -1, true), count);
        }
    }

    private static void refusedInstructions(Expect expect) {
        expect.sentence(INSTRUCTION);
        int[] operations = {-1, 21, LOW, HIGH};
        for (int operation : operations) {
            refused(expect, "operation " + operation, ARGUMENT, m -> m.instruction(operation, 0, 0, 0, 0, true));
        }
        int[] predicates = {-1, 16, LOW, HIGH};
        for (int q : predicates) {
            refused(expect, "q " + q, ARGUMENT, m -> m.instruction(20, q, 0, 0, 0, true));
        }
        refused(expect, "both", ARGUMENT, m -> m.instruction(21, 16, 0, 0, 0, true));
    }

    private static void fullDrafts(Expect expect) {
        expect.sentence("One more instruction in the draft: how many there are. " + INSTRUCTION);
        Twins.refused(expect, "the forty-first", BoundsOfPromisesTest::full, STATE,
                m -> m.instruction(Code.END, 0, 0, 0, 0, true));
        Code code = Code.fresh();
        for (int i = 1; i <= 39; i++) {
            expect.same("one more", code.machine.instruction(Code.NOTHING, 0, 0, 0, 0, true), i);
        }
        PredicateMachine machine = code.machine;
        expect.same("the fortieth", machine.instruction(Code.END, 0, 0, 0, 0, true), 40);
        expect.badState("the forty-first", () -> machine.instruction(Code.SET, 0, 0, 0, 0, true));
        expect.badState("the forty-second", () -> machine.instruction(Code.SET, 0, 0, 0, 0, true));
        expect.same("the forty are taken as they were", machine.take(), 40);
        expect.same("then there is room again", machine.instruction(Code.END, 0, 0, 0, 0, true), 1);
    }

    private static void groupsCounted(Expect expect) {
        expect.sentence("How many groups it has.");
        for (int groups = 1; groups <= 40; groups++) {
            Code code = Code.fresh();
            for (int i = 0; i < 40 - groups; i++) {
                code.open(Code.NOTHING);
            }
            for (int i = 1; i < groups; i++) {
                code.line(Code.NOTHING);
            }
            expect.same("of forty instructions", code.line(Code.END).machine.take(), groups);
        }
    }

    private static final String TAKE = "The draft becomes the program, and is empty afterwards, also when this throws; "
            + "everything is as at the beginning, but for the memory and the static registers.";

    private static void emptyAfterTaking(Expect expect) {
        expect.sentence(TAKE);
        PredicateMachine machine = Code.fresh().line(Code.NOTHING).line(Code.END).machine;
        expect.same("two", machine.take(), 2);
        expect.badArgument("empty", machine::take);
        expect.same("told as empty", machine.fault(0), 4);
        expect.same("the first of the next", machine.instruction(Code.END, 0, 0, 0, 0, true), 1);
        expect.same("one", machine.take(), 1);
        expect.same("the first again", machine.instruction(Code.END, 0, 0, 0, 0, true), 1);
    }

    private static void emptyAfterRefusal(Expect expect) {
        expect.sentence(TAKE);
        for (int count = 1; count <= 40; count++) {
            Code code = Code.fresh();
            for (int i = 0; i < count; i++) {
                code.line(Code.NOTHING);
            }
            PredicateMachine machine = code.machine;
            expect.badArgument("a draft of " + count + " without an end", machine::take);
            expect.same("at the last", machine.fault(1), count - 1);
            expect.badArgument("it is empty", machine::take);
            expect.same("told as empty", machine.fault(0), 4);
            expect.same("the first of the next", machine.instruction(Code.END, 0, 0, 0, 0, true), 1);
            expect.same("which is good", machine.take(), 1);
            expect.same("and runs", machine.run(1), 0);
        }
    }

    private static void asAtTheBeginning(Expect expect) {
        expect.sentence(TAKE);
        Twins.Maker[] used = {BoundsOfPromisesTest::busy, BoundsOfPromisesTest::ended};
        for (Twins.Maker maker : used) {
            for (int steps = 0; steps <= 5; steps++) {
                PredicateMachine machine = maker.make();
                PredicateMachine fresh = new PredicateMachine();
                // What busy() has left in memory and static registers; cell 0 has NAT and no value.
                fresh.set(1, 32);
                fresh.set(7, -1);
                fresh.poke(31, 55);
                new Code(machine).line(Code.NOTHING);
                expect.badArgument("a draft without an end", machine::take);
                PredicateMachine[] both = {machine, fresh};
                for (PredicateMachine one : both) {
                    new Code(one).line(Code.FRAME, 24, 2, 8).line(Code.CALL, 3).line(Code.END)
                            .line(Code.FRAME, 24, 0, 0).line(Code.RETURN).taken();
                    if (steps > 0) {
                        one.run(steps);
                    }
                }
                String differing = State.difference(State.of(fresh), State.of(machine));
                expect.same("what differs behind " + steps + " steps", differing, "");
            }
        }
        PredicateMachine machine = new Code(busy()).line(Code.BRING, 2, 0).line(Code.END).ran(9);
        expect.same("the NAT of a cell stays too", machine.nat(2), true);
    }

    private static void refusedDrafts(Expect expect) {
        expect.sentence("IllegalArgumentException: it has a fault, or is empty.");
        // An operation, its Q, and the fault that it is alone in a draft.
        int[][] wrong = {{Code.SET, 0, 1}, {Code.NOTHING, 0, 3}, {Code.END, 1, 3}, {Code.BRANCH, 1, 1}};
        for (int[] line : wrong) {
            PredicateMachine machine = new PredicateMachine();
            machine.instruction(line[0], line[1], line[0] == Code.BRANCH ? 1 : 0, 0, 0, true);
            expect.badArgument("operation " + line[0], machine::take);
            expect.same("its fault", machine.fault(0), line[2]);
        }
        expect.badArgument("empty", () -> new PredicateMachine().take());
        refusedDraftLeavesTheRest(expect);
    }

    // The words say what is empty when this throws; all else is as before but for the fault.
    private static void refusedDraftLeavesTheRest(Expect expect) {
        PredicateMachine before = busy();
        PredicateMachine after = busy();
        new Code(after).line(Code.SET, 0, 1);
        expect.badArgument("a draft with a fault", after::take);
        expect.same("what differs", State.difference(State.of(before), State.of(after)),
                "[fault 0: 0 / fault 0: 1][fault 1: -1 / fault 1: 1]");
        before = busy();
        PredicateMachine emptied = busy();
        expect.badArgument("a draft without an end", emptied::take);
        expect.badArgument("an empty one", emptied::take);
        expect.same("what differs behind the empty one", State.difference(State.of(before), State.of(emptied)),
                "[fault 0: 0 / fault 0: 4]");
        expect.same("the former program runs on", emptied.run(500), before.run(500));
        expect.same("to the same end", emptied.look(0), before.look(0));
    }

    private static void faults(Expect expect) {
        expect.sentence("what 0 the fault (0 for none, 4 for an empty one), 1 the instruction "
                + "(-1 for none or an empty one). IllegalArgumentException: there is no such what.");
        PredicateMachine machine = new PredicateMachine();
        expect.same("none at first", machine.fault(0) + " at " + machine.fault(1), "0 at -1");
        expect.same("an empty one", new Code(machine).faultFound(), "4 at -1");
        expect.same("a number", new Code(machine).line(Code.SET, 0).line(Code.END).faultFound(), "1 at 0");
        expect.same("empty again", new Code(machine).faultFound(), "4 at -1");
        Code group = new Code(machine).open(Code.SET, 1).line(Code.SET, 1).line(Code.END);
        expect.same("a group", group.faultFound(), "2 at 1");
        expect.same("an end", new Code(machine).line(Code.END).line(Code.NOTHING).faultFound(), "3 at 1");
        expect.same("none", new Code(machine).line(Code.END).faultFound(), "0 at -1");
        int[] none = {-1, 2, LOW, HIGH};
        for (int what : none) {
            refused(expect, "fault " + what, ARGUMENT, m -> m.fault(what));
        }
    }

    private static void latestDraft(Expect expect) {
        expect.sentence("What was wrong with the latest draft that was to be taken");
        PredicateMachine machine = Code.fresh().line(Code.SET, 8, 1).line(Code.END).taken();
        new Code(machine).line(Code.NOTHING).line(Code.NOTHING);
        expect.same("not yet", machine.fault(0) + " at " + machine.fault(1), "0 at -1");
        expect.same("now", new Code(machine).faultFound(), "3 at 1");
        expect.same("a run has a fault of its own", machine.run(5), 1);
        expect.badArgument("a wrong call", () -> machine.set(0, 0));
        new Code(machine).line(Code.END);
        expect.same("still", machine.fault(0) + " at " + machine.fault(1), "3 at 1");
        expect.same("the next", new Code(machine).faultFound(), "0 at -1");
    }

    private static final String RUN = "IllegalArgumentException: budget is not 1 .. 500; IllegalStateException: "
            + "there is no program, or it ended with 0 before.";

    private static void budgets(Expect expect) {
        expect.sentence(RUN);
        int[] none = {0, 501, -1, LOW, HIGH};
        for (int budget : none) {
            refused(expect, "budget " + budget, ARGUMENT, m -> m.run(budget));
        }
        for (int budget = 1; budget <= 500; budget += 499) {
            PredicateMachine machine = Code.fresh().line(Code.BRANCH, 0).taken();
            expect.same("budget " + budget, machine.run(budget), 5);
        }
    }

    private static void nothingToRun(Expect expect) {
        expect.sentence(RUN);
        for (int budget = 1; budget <= 500; budget += 499) {
            int all = budget;
            Twins.refused(expect, "no program", PredicateMachine::new, STATE, m -> m.run(all));
            Twins.refused(expect, "a draft alone", () -> Code.fresh().line(Code.END).machine, STATE, m -> m.run(all));
            Twins.refused(expect, "ended", BoundsOfPromisesTest::ended, STATE, m -> m.run(all));
        }
        PredicateMachine machine = Code.fresh().line(Code.NOTHING).machine;
        expect.badArgument("a draft without an end", machine::take);
        expect.badState("still no program", () -> machine.run(1));
        new Code(machine).line(Code.END).taken();
        expect.same("a program", machine.run(1), 0);
        expect.badState("it has ended", () -> machine.run(1));
        new Code(machine).line(Code.END);
        expect.badState("a new draft alone", () -> machine.run(1));
        machine.take();
        expect.same("a new program", machine.run(1), 0);
        PredicateMachine faulting = Code.fresh().line(Code.SET, 8, 1).line(Code.END).taken();
        expect.same("a fault", faulting.run(1), 1);
        expect.same("has not ended with 0", faulting.run(1), 1);
    }

    private static void setting(Expect expect) {
        expect.sentence("Sets a static register 1 .. 7, without NAT. IllegalArgumentException: not so.");
        for (int register = 1; register <= 7; register++) {
            int other = register == 7 ? 1 : register + 1;
            PredicateMachine machine = Code.fresh().line(Code.SET, other, 32).line(Code.ADVANCE, register, other)
                    .line(Code.END).ran(9);
            expect.same("NAT before", machine.nat(register), true);
            machine.set(register, Long.MIN_VALUE);
            expect.same("set " + register, machine.register(register), Long.MIN_VALUE);
            expect.same("without NAT", machine.nat(register), false);
            expect.same("not the other", machine.register(other), 32);
            machine.set(register, Long.MAX_VALUE);
            expect.same("set again", machine.register(register), Long.MAX_VALUE);
        }
        int[] none = {0, 8, 31, 32, -1, LOW, HIGH};
        for (int register : none) {
            refused(expect, "set " + register, ARGUMENT, m -> {
                m.set(register, 5);
                return "set";
            });
        }
    }

    private static void registersNow(Expect expect) {
        String[] sentences = {
            "A register's value. IllegalArgumentException: there is none now.",
            "Whether a register has NAT. IllegalArgumentException: there is none now."
        };
        int[] none = {-1, 32, LOW, HIGH};
        for (int k = 0; k < 2; k++) {
            expect.sentence(sentences[k]);
            boolean nat = k == 1;
            Twins.Calls[] calls = new Twins.Calls[33];
            for (int i = 0; i <= 32; i++) {
                int register = i;
                calls[i] = nat ? m -> m.nat(register) : m -> m.register(register);
            }
            sizesNow(expect, calls, nat);
            for (int register : none) {
                refused(expect, "register " + register, ARGUMENT, nat ? m -> m.nat(register) : m -> m.register(register));
            }
            Twins.refused(expect, "register 8 at first", PredicateMachine::new, ARGUMENT, calls[8]);
        }
    }

    // What is there follows the current frame: as it grows, falls, is left and comes back.
    private static void sizesNow(Expect expect, Twins.Calls[] calls, boolean nat) {
        PredicateMachine machine = Code.fresh().line(Code.FRAME, 24, 5, 0).line(Code.FRAME, 7, 6, 0).line(Code.CALL, 3)
                .line(Code.FRAME, 0, 0, 0).line(Code.FRAME, 1, 0, 0).line(Code.RETURN).taken();
        int[] sizes = {0, 24, 7, 6, 0, 1, 7};
        for (int size : sizes) {
            for (int register = 0; register <= 32; register++) {
                Twins.Calls call = calls[register];
                boolean there = register < 8 + size;
                String due = !there ? "throws." + ARGUMENT : nat ? "false" : "0";
                expect.same("size " + size + ", " + register, Expect.answer(() -> call.on(machine)), due);
            }
            machine.run(1);
        }
    }

    private static void predicates(Expect expect) {
        expect.sentence("A predicate. IllegalArgumentException: there is none.");
        PredicateMachine machine = Code.fresh().line(Code.SAME, 1, 0, 0).line(Code.LESS, 14, 0, 0).line(Code.END).ran(9);
        for (int p = 0; p <= 15; p++) {
            expect.same("predicate " + p, machine.predicate(p), p <= 1 || p == 15);
        }
        int[] none = {-1, 16, LOW, HIGH};
        for (int p : none) {
            refused(expect, "predicate " + p, ARGUMENT, m -> m.predicate(p));
        }
    }

    private static void memory(Expect expect) {
        expect.sentence("A memory cell. IllegalArgumentException: there is none.");
        PredicateMachine machine = new PredicateMachine();
        machine.poke(0, Long.MIN_VALUE);
        machine.poke(31, Long.MAX_VALUE);
        expect.same("the first", machine.memory(0), Long.MIN_VALUE);
        expect.same("the last", machine.memory(31), Long.MAX_VALUE);
        expect.same("the second", machine.memory(1), 0);
        int[] none = {-1, 32, LOW, HIGH};
        for (int cell : none) {
            refused(expect, "memory " + cell, ARGUMENT, m -> m.memory(cell));
        }
    }

    private static void poking(Expect expect) {
        expect.sentence("The host writes a memory cell, without NAT. IllegalArgumentException: there is none.");
        for (int cell = 0; cell <= 31; cell++) {
            PredicateMachine machine = Code.fresh().line(Code.SET, 1, cell).line(Code.SET, 2, 32)
                    .line(Code.ADVANCE, 3, 2).line(Code.KEEP, 1, 3).line(Code.BRING, 4, 1).line(Code.BRING, 5, 1)
                    .line(Code.END).taken();
            machine.run(5);
            expect.same("NAT before", machine.nat(4), true);
            machine.poke(cell, 1L << 60);
            machine.run(9);
            expect.same("poked " + cell, machine.register(5), 1L << 60);
            expect.same("without NAT", machine.nat(5), false);
        }
        int[] none = {-1, 32, LOW, HIGH};
        for (int cell : none) {
            refused(expect, "poke " + cell, ARGUMENT, m -> {
                m.poke(cell, 5);
                return "poked";
            });
        }
    }

    private static void looking(Expect expect) {
        expect.sentence("IllegalArgumentException: there is no such what.");
        PredicateMachine machine = busy();
        int[] due = {10, 24, 1, 8, 0, 1, 2, 2, 16, 0, 16, 16};
        for (int what = 0; what <= 11; what++) {
            expect.same("look " + what, machine.look(what), due[what]);
        }
        int[] none = {-1, 12, LOW, HIGH};
        for (int what : none) {
            refused(expect, "look " + what, ARGUMENT, m -> m.look(what));
        }
    }

    private static void farthestLooks(Expect expect) {
        expect.sentence("what 0 the instruction at which it goes on, 1 the size, 2 the outs, 3 the turns of the frame, "
                + "4 B, 5 how many frames were called and are not yet returned from, 6 the loop count, 7 the end count, "
                + "8 how many were spilled, 9 filled so far (since the program was taken), "
                + "10 where the frame begins in the row, 11 the lowest of the row that is held.");
        PredicateMachine machine = Code.fresh().line(Code.COUNT, 20, 20).line(Code.FRAME, 24, 24, 16)
                .line(Code.BRANCH, 3).line(Code.TURN, 3).line(Code.END).taken();
        machine.run(3);
        int[] framed = {3, 24, 24, 16, 0, 0, 20, 20, 0, 0, 0, 0};
        for (int what = 0; what <= 11; what++) {
            expect.same("look " + what, machine.look(what), framed[what]);
        }
        machine.run(1);
        expect.same("B", machine.look(4), 15);
        expect.same("loop count", machine.look(6), 19);
        // Three in each of 40 frames fill the row; the last frame called has none.
        PredicateMachine deep = Code.fresh().line(Code.FRAME, 3, 0, 0).line(Code.CALL, 0).line(Code.END).taken();
        expect.same("a full row", deep.run(500), 4);
        int[] due = {0, 0, 0, 0, 0, 40, 0, 0, 96, 0, 120, 96};
        for (int what = 0; what <= 11; what++) {
            expect.same("deep look " + what, deep.look(what), due[what]);
        }
    }

    private static void sinceItWasTaken(Expect expect) {
        expect.sentence("8 how many were spilled, 9 filled so far (since the program was taken)");
        PredicateMachine machine = new PredicateMachine();
        for (int program = 0; program < 3; program++) {
            new Code(machine).line(Code.FRAME, 24, 0, 0).line(Code.CALL, 3).line(Code.END)
                    .line(Code.FRAME, 24, 0, 0).line(Code.RETURN).taken();
            expect.same("spilled at first", machine.look(8), 0);
            expect.same("filled at first", machine.look(9), 0);
            machine.run(9);
            expect.same("spilled", machine.look(8), 24);
            expect.same("filled", machine.look(9), 24);
        }
    }

    private static void backing(Expect expect) {
        expect.sentence("What was spilled last from place k of the row (0 when nothing was). "
                + "IllegalArgumentException: k is not 0 .. 119.");
        // Five frames of 24, whose first and last hold 1, 2, ..: four are spilled.
        PredicateMachine machine = Code.fresh().line(Code.FRAME, 24, 0, 0).line(Code.ADD, 1, 1, 2)
                .line(Code.ADD, 8, 1, 0).line(Code.ADD, 31, 1, 0).line(Code.CALL, 0).line(Code.END).taken();
        machine.set(2, 1);
        expect.same("the row is full", machine.run(100), 4);
        for (int k = 0; k <= 119; k++) {
            boolean filledIn = k % 24 == 0 || k % 24 == 23;
            expect.same("backing " + k, machine.backing(k), k < 96 && filledIn ? k / 24 + 1 : 0);
        }
        int[] none = {-1, 120, LOW, HIGH};
        for (int k : none) {
            refused(expect, "backing " + k, ARGUMENT, m -> m.backing(k));
        }
    }

    private static void fiveHundredTwelveCalls(Expect expect) {
        expect.sentence("An object is used for at most 512 calls after it has been made; what later calls answer is free.");
        PredicateMachine machine = Code.fresh().line(Code.ADD, 1, 1, 2).line(Code.BRANCH, 0).taken();
        machine.set(2, 1);
        for (int call = 5; call <= 511; call++) {
            expect.same("call " + call, machine.run(500), 5);
        }
        expect.same("call 512", machine.register(1), 507 * 250);
        PredicateMachine writing = new PredicateMachine();
        for (int call = 1; call <= 512; call++) {
            if (call % 2 == 1) {
                expect.same("call " + call, writing.instruction(Code.END, 0, 0, 0, 0, true), 1);
            } else {
                expect.same("call " + call, writing.take(), 1);
            }
        }
    }
}
