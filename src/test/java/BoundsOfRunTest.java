/** The bounds that the document's terms name for how a run ends. */
final class BoundsOfRunTest {
    // Which numbers of each operation are registers, as 1s.
    private static final String[] REGISTERS = {
        "000", "100", "111", "111", "111", "111", "011", "011", "110", "110", "110", "110", "110",
        "100", "000", "000", "000", "000", "000", "000", "000"
    };

    public static void main(String[] args) {
        Expect expect = new Expect("BoundsOfRunTest");
        oneAfterTheOther(expect);
        endsWithEnd(expect);
        endsWithReturn(expect);
        registersBeyondTheFrame(expect);
        beyondTheFrameThatIsCurrent(expect);
        beyondBeforeAllElse(expect);
        noSuchCell(expect);
        natOfAddresses(expect);
        natBeforeCells(expect);
        tooLongOrTooMany(expect);
        budgets(expect);
        budgetsCountFalseOnes(expect);
        lastOfTheBudget(expect);
        faultsDoNothing(expect);
        faultsThatAreMended(expect);
        expect.end();
    }

    private static void oneAfterTheOther(Expect expect) {
        expect.sentence("A RUN does instructions one after the other.");
        Code code = Code.fresh();
        for (int i = 0; i < 39; i++) {
            code.line(Code.SET, 1, i);
        }
        PredicateMachine machine = code.line(Code.END).taken();
        for (int i = 0; i < 39; i++) {
            expect.same("before " + i, machine.look(0), i);
            machine.run(1);
            expect.same("behind " + i, machine.register(1), i);
        }
        expect.same("the last", machine.run(1), 0);
    }

    private static void endsWithEnd(Expect expect) {
        expect.sentence("It ENDS: 0 with END, or with a RETURN when nothing was called");
        for (int called = 0; called <= 40; called += 20) {
            // END ends the run at any depth.
            PredicateMachine machine = Code.fresh().line(Code.SUBTRACT, 7, 7, 6).line(Code.LESS, 1, 0, 7)
                    .when(1, Code.CALL, 0).line(Code.END).taken();
            machine.set(6, 1);
            machine.set(7, called + 1);
            expect.same("END with " + called, machine.run(500), 0);
            expect.same("called", machine.look(5), called);
            expect.same("it stays there", machine.look(0), 3);
            expect.badState("it has ended", () -> machine.run(1));
        }
        PredicateMachine never = Code.fresh().when(1, Code.END).line(Code.BRANCH, 0).taken();
        expect.same("END with a false Q", never.run(500), 5);
    }

    private static void endsWithReturn(Expect expect) {
        expect.sentence("It ENDS: 0 with END, or with a RETURN when nothing was called");
        PredicateMachine none = Code.fresh().line(Code.FRAME, 3, 2, 0).line(Code.SET, 9, 7).line(Code.RETURN).taken();
        expect.same("nothing called", none.run(3), 0);
        expect.same("the frame stays", none.look(1), 3);
        expect.same("its register too", none.register(9), 7);
        expect.badState("it has ended", () -> none.run(1));
        PredicateMachine one = Code.fresh().line(Code.CALL, 1).line(Code.RETURN).taken();
        expect.same("one called, CALL and RETURN", one.run(2), 5);
        expect.same("none is called now", one.look(5), 0);
        expect.same("RETURN again", one.run(1), 0);
        expect.badState("it has ended", () -> one.run(1));
    }

    // A frame of this size, then the operation; every other number is good and a static register.
    private static PredicateMachine naming(int size, int operation, int k, int register) {
        int[] numbers = {1, 1, 1};
        numbers[k] = register;
        PredicateMachine machine = Code.fresh().line(Code.FRAME, size, 0, 0).line(operation, numbers)
                .line(Code.END).taken();
        machine.run(1);
        return machine;
    }

    private static final String BEYOND = "1 a FAULT: a stacked register beyond the frame is named "
            + "(looked at for a, b, c in this order, before all else)";

    private static void registersBeyondTheFrame(Expect expect) {
        expect.sentence(BEYOND);
        int[] sizes = {0, 1, 8, 23, 24};
        for (int size : sizes) {
            for (int operation = 0; operation < REGISTERS.length; operation++) {
                for (int k = 0; k < 3; k++) {
                    if (REGISTERS[operation].charAt(k) != '1') {
                        continue;
                    }
                    String what = "size " + size + ", number " + k + " of " + operation + ": ";
                    for (int register = 1; register <= 31; register++) {
                        PredicateMachine machine = naming(size, operation, k, register);
                        int due = register >= 8 + size ? 1 : 5;
                        expect.same(what + register, machine.run(1), due);
                        if (due == 1) {
                            expect.same(what + register + " stays", machine.look(0), 1);
                        }
                    }
                }
            }
        }
        PredicateMachine numbers = Code.fresh().line(Code.SET, 1, 8).line(Code.LESS, 8, 1, 1)
                .line(Code.COUNT, 8, 8, 31).line(Code.NOTHING, 8, 31, 8).line(Code.LOAD, 2, 1, 31).line(Code.END).taken();
        expect.same("numbers that are no registers", numbers.run(9), 0);
    }

    private static void beyondTheFrameThatIsCurrent(Expect expect) {
        expect.sentence(BEYOND);
        PredicateMachine called = Code.fresh().line(Code.FRAME, 5, 2, 0).line(Code.SET, 12, 1).line(Code.CALL, 4)
                .line(Code.SET, 12, 2).line(Code.SET, 9, 1).line(Code.SET, 10, 1).line(Code.RETURN).taken();
        expect.same("the called one has two", called.run(9), 1);
        expect.same("at the third", called.look(0), 5);
        PredicateMachine smaller = Code.fresh().line(Code.FRAME, 5, 2, 0).line(Code.FRAME, 4, 0, 0)
                .line(Code.SET, 11, 1).line(Code.SET, 12, 1).line(Code.END).taken();
        expect.same("one fewer", smaller.run(9), 1);
        expect.same("at the one that it had", smaller.look(0), 3);
        PredicateMachine back = Code.fresh().line(Code.FRAME, 5, 2, 0).line(Code.CALL, 3).line(Code.BRANCH, 5)
                .line(Code.FRAME, 0, 0, 0).line(Code.RETURN).line(Code.SET, 12, 1).line(Code.SET, 13, 1)
                .line(Code.END).taken();
        expect.same("five again", back.run(9), 1);
        expect.same("at the sixth", back.look(0), 6);
    }

    // Register 1 is 32 without NAT, 2 is 32 with NAT, 3 is 0 with NAT.
    private static Code withNats() {
        return Code.fresh().line(Code.SET, 1, 32).line(Code.ADVANCE, 3, 1).line(Code.ADD, 2, 3, 1);
    }

    private static int ending(Code code) {
        return code.line(Code.END).taken().run(20);
    }

    private static void beyondBeforeAllElse(Expect expect) {
        expect.sentence(BEYOND);
        for (int bad = 1; bad <= 3; bad++) {
            expect.same("LOAD a", ending(withNats().line(Code.LOAD, 8, bad)), 1);
            expect.same("BRING a", ending(withNats().line(Code.BRING, 8, bad)), 1);
            expect.same("ADVANCE a", ending(withNats().line(Code.ADVANCE, 8, bad)), 1);
            expect.same("STORE a", ending(withNats().line(Code.STORE, 8, bad)), 1);
            expect.same("STORE b", ending(withNats().line(Code.STORE, bad, 8)), 1);
            expect.same("KEEP a", ending(withNats().line(Code.KEEP, 8, bad)), 1);
            expect.same("KEEP b", ending(withNats().line(Code.KEEP, bad, 8)), 1);
        }
        expect.same("a false Q is before it", ending(withNats().when(1, Code.SET, 8, 1)), 0);
    }

    private static PredicateMachine addressing(int operation, long address) {
        boolean stores = operation == Code.STORE || operation == Code.KEEP;
        PredicateMachine machine = Code.fresh().line(operation, stores ? 1 : 2, stores ? 2 : 1).line(Code.END).taken();
        machine.set(1, address);
        machine.set(2, 77);
        machine.poke(0, 5);
        machine.poke(31, 6);
        return machine;
    }

    private static void noSuchCell(Expect expect) {
        expect.sentence("2 no such memory cell (0 .. 31)");
        int[] operations = {Code.LOAD, Code.STORE, Code.KEEP, Code.BRING};
        long[] none = {-1, 32, -32, 1L << 32, -(1L << 32), (1L << 32) + 31, Long.MIN_VALUE, Long.MAX_VALUE};
        for (int operation : operations) {
            for (int cell = 0; cell <= 31; cell++) {
                expect.same(operation + " at " + cell, addressing(operation, cell).run(2), 0);
            }
            for (long address : none) {
                PredicateMachine machine = addressing(operation, address);
                expect.same(operation + " at " + address, machine.run(2), 2);
                expect.same("it stays there", machine.look(0), 0);
                expect.same("register 2", machine.register(2), 77);
                expect.same("the first cell", machine.memory(0), 5);
                expect.same("the last cell", machine.memory(31), 6);
            }
        }
        for (long address : none) {
            expect.same("ADVANCE never", addressing(Code.ADVANCE, address).run(2), 0);
        }
    }

    private static void natOfAddresses(Expect expect) {
        expect.sentence("3 NAT of an address, of r in STORE (looked at before 2)");
        // Register 3 has NAT and is 0, which would be a cell.
        expect.same("LOAD", ending(withNats().line(Code.LOAD, 4, 3)), 3);
        expect.same("BRING", ending(withNats().line(Code.BRING, 4, 3)), 3);
        expect.same("STORE's address", ending(withNats().line(Code.STORE, 3, 0)), 3);
        expect.same("STORE's r", ending(withNats().line(Code.STORE, 0, 3)), 3);
        expect.same("STORE's both", ending(withNats().line(Code.STORE, 3, 3)), 3);
        expect.same("KEEP's address", ending(withNats().line(Code.KEEP, 3, 0)), 3);
        expect.same("KEEP's both", ending(withNats().line(Code.KEEP, 3, 3)), 3);
        expect.same("KEEP's r alone is good", ending(withNats().line(Code.KEEP, 0, 3)), 0);
        expect.same("ADVANCE's address is good", ending(withNats().line(Code.ADVANCE, 4, 3)), 0);
        expect.same("what is written over may have NAT", ending(withNats().line(Code.LOAD, 3, 0)), 0);
    }

    private static void natBeforeCells(Expect expect) {
        expect.sentence("3 NAT of an address, of r in STORE (looked at before 2)");
        // Register 1 is 32 without NAT and 2 is 32 with NAT: no cell either way.
        expect.same("LOAD", ending(withNats().line(Code.LOAD, 4, 2)), 3);
        expect.same("BRING", ending(withNats().line(Code.BRING, 4, 2)), 3);
        expect.same("STORE's address", ending(withNats().line(Code.STORE, 2, 0)), 3);
        expect.same("STORE's r with no cell", ending(withNats().line(Code.STORE, 1, 3)), 3);
        expect.same("KEEP's address", ending(withNats().line(Code.KEEP, 2, 0)), 3);
        expect.same("KEEP's r with no cell", ending(withNats().line(Code.KEEP, 1, 3)), 2);
        expect.same("STORE without NAT and no cell", ending(withNats().line(Code.STORE, 1, 0)), 2);
    }

    // Frames of 24 up to the end of the row, then one more of this size.
    private static Code longRow(int more) {
        Code code = Code.fresh();
        for (int i = 0; i < 5; i++) {
            code.line(Code.FRAME, 24, 0, 0).line(Code.CALL, 2 * i + 2);
        }
        return code.line(Code.FRAME, more, 0, 0).line(Code.END);
    }

    private static void tooLongOrTooMany(Expect expect) {
        expect.sentence("4 the row would be too long, or too many called");
        expect.same("none more than 120", longRow(0).taken().run(20), 0);
        expect.same("one more than 120", longRow(1).taken().run(20), 4);
        expect.same("24 more than 120", longRow(24).taken().run(20), 4);
        PredicateMachine machine = Code.fresh().line(Code.CALL, 0).line(Code.END).taken();
        expect.same("forty called", machine.run(40), 5);
        expect.same("forty-one called", machine.run(1), 4);
        PredicateMachine both = Code.fresh().line(Code.FRAME, 3, 0, 0).line(Code.CALL, 0).line(Code.END).taken();
        expect.same("forty of three are 120", both.run(80), 5);
        expect.same("the forty-first frame is too much", both.run(1), 4);
        expect.same("at the FRAME", both.look(0), 0);
        expect.same("forty are called", both.look(5), 40);
    }

    private static final String SEEN = "5 when so many instructions as the budget says were seen "
            + "(also those whose Q is false).";

    private static void budgets(Expect expect) {
        expect.sentence(SEEN);
        int[] budgets = {1, 2, 3, 250, 499, 500};
        for (int budget : budgets) {
            PredicateMachine machine = Code.fresh().line(Code.ADD, 1, 1, 2).line(Code.BRANCH, 0).taken();
            machine.set(2, 1);
            expect.same("budget " + budget, machine.run(budget), 5);
            expect.same("how many were done", machine.register(1), (budget + 1) / 2);
            expect.same("where it goes on", machine.look(0), budget % 2);
            expect.same("on", machine.run(budget), 5);
            expect.same("twice as many", machine.register(1), budget);
            expect.same("at the first again", machine.look(0), 0);
        }
    }

    private static void budgetsCountFalseOnes(Expect expect) {
        expect.sentence(SEEN);
        for (int budget = 1; budget <= 39; budget++) {
            Code code = Code.fresh();
            for (int i = 0; i < 39; i++) {
                code.when(15, Code.BRANCH, 0);
            }
            PredicateMachine machine = code.line(Code.BRANCH, 0).taken();
            expect.same("budget " + budget, machine.run(budget), 5);
            expect.same("where it goes on", machine.look(0), budget);
        }
    }

    private static void lastOfTheBudget(Expect expect) {
        expect.sentence(SEEN);
        int[] ends = {Code.END, Code.RETURN};
        for (int end : ends) {
            PredicateMachine exact = Code.fresh().line(Code.NOTHING).line(Code.NOTHING).line(end).taken();
            expect.same("as the last of three", exact.run(3), 0);
            PredicateMachine early = Code.fresh().line(Code.NOTHING).line(Code.NOTHING).line(end).taken();
            expect.same("one too few", early.run(2), 5);
            expect.same("then the end", early.run(1), 0);
        }
        PredicateMachine faulting = Code.fresh().line(Code.NOTHING).line(Code.SET, 8, 1).line(Code.END).taken();
        expect.same("before the fault", faulting.run(1), 5);
        expect.same("a fault as the last", faulting.run(1), 1);
        expect.same("a fault is no matter of the budget", faulting.run(500), 1);
    }

    private static void atFault(Expect expect, String what, int due, int before, Code code) {
        PredicateMachine machine = code.taken();
        machine.run(before);
        String was = State.of(machine);
        expect.same(what, machine.run(1), due);
        expect.same(what + ": what differs", State.difference(was, State.of(machine)), "");
    }

    private static void faultsDoNothing(Expect expect) {
        expect.sentence("An instruction that faults does nothing.");
        atFault(expect, "no register to write", 1, 1, Code.fresh().line(Code.SET, 1, 5).line(Code.ADD, 8, 1, 1)
                .line(Code.END));
        atFault(expect, "no register to read", 1, 1, Code.fresh().line(Code.SET, 1, 5).line(Code.ADD, 1, 1, 31)
                .line(Code.END));
        atFault(expect, "no register to compare", 1, 1, Code.fresh().line(Code.SAME, 2, 0, 0)
                .line(Code.LESS, 2, 0, 8).line(Code.END));
        atFault(expect, "no cell to load", 2, 2, Code.fresh().line(Code.SET, 1, 32).line(Code.SET, 2, 5)
                .line(Code.LOAD, 2, 1).line(Code.END));
        atFault(expect, "no cell to keep in", 2, 2, Code.fresh().line(Code.SET, 1, -1).line(Code.SET, 2, 5)
                .line(Code.KEEP, 1, 2).line(Code.END));
        atFault(expect, "NAT to load from", 3, 3, withNats().line(Code.LOAD, 2, 3).line(Code.END));
        atFault(expect, "NAT to store", 3, 3, withNats().line(Code.STORE, 0, 2).line(Code.END));
        atFault(expect, "NAT to keep at", 3, 3, withNats().line(Code.KEEP, 3, 1).line(Code.END));
        atFault(expect, "too long a row", 4, 10, longRow(24));
        atFault(expect, "too many called", 4, 40, Code.fresh().line(Code.CALL, 0).line(Code.END));
    }

    private static void faultsThatAreMended(Expect expect) {
        expect.sentence("Runs on, from where the latest run ended, or from instruction 0: how it ends.");
        PredicateMachine machine = Code.fresh().line(Code.LOAD, 2, 1).line(Code.END).taken();
        machine.set(1, 32);
        machine.poke(31, 9);
        for (int again = 0; again < 3; again++) {
            expect.same("no cell 32", machine.run(500), 2);
        }
        machine.set(1, 31);
        expect.same("the same instruction, now good", machine.run(1), 5);
        expect.same("what it loaded", machine.register(2), 9);
        expect.same("the end", machine.run(1), 0);
    }
}
