/** Promise 5: how a run ends, where it goes on, and what it refuses. */
final class RunEndsTest {
    public static void main(String[] args) {
        Expect expect = new Expect("RunEndsTest");
        refuses(expect);
        endsWithZero(expect);
        budgets(expect);
        missingRegisters(expect);
        missingCells(expect);
        natsThatFault(expect);
        tooDeep(expect);
        falseInstructionsDoNothing(expect);
        expect.end();
    }

    private static void refuses(Expect expect) {
        PredicateMachine machine = new PredicateMachine();
        int[] budgets = {0, -1, 501, Integer.MIN_VALUE, Integer.MAX_VALUE};
        for (int budget : budgets) {
            expect.badArgument("budget " + budget, () -> machine.run(budget));
        }
        expect.badState("no program", () -> machine.run(1));
        expect.badArgument("an empty draft", machine::take);
        expect.badState("no program still", () -> machine.run(500));
        new Code(machine).line(Code.END);
        expect.badState("a draft is no program", () -> machine.run(1));
        machine.take();
        for (int budget : budgets) {
            expect.badArgument("budget " + budget, () -> machine.run(budget));
        }
        expect.same("the end", machine.run(500), 0);
        expect.badState("behind the end", () -> machine.run(1));
        for (int budget : budgets) {
            expect.badArgument("budget " + budget, () -> machine.run(budget));
        }
    }

    private static void endsWithZero(Expect expect) {
        PredicateMachine end = Code.fresh().line(Code.NOTHING).line(Code.END).taken();
        expect.same("END as the last of the budget", end.run(2), 0);
        expect.same("it stays at the END", end.look(0), 1);
        Code code = Code.fresh().line(Code.FRAME, 3, 1, 0).line(Code.SET, 9, 4).line(Code.RETURN);
        PredicateMachine returned = code.taken();
        expect.same("RETURN with nothing called", returned.run(10), 0);
        expect.same("it stays at the RETURN", returned.look(0), 2);
        expect.same("its frame stays", returned.look(1), 3);
        expect.same("its registers stay", returned.register(9), 4);
        expect.badState("behind the RETURN", () -> returned.run(1));
    }

    private static void budgets(Expect expect) {
        PredicateMachine machine = Code.fresh().line(Code.ADD, 1, 1, 2)
                .when(3, Code.ADD, 1, 1, 2).line(Code.BRANCH, 0).taken();
        machine.set(2, 1);
        expect.same("one", machine.run(1), 5);
        expect.same("at 1", machine.look(0), 1);
        expect.same("a false one is seen", machine.run(1), 5);
        expect.same("at 2", machine.look(0), 2);
        expect.same("not done", machine.register(1), 1);
        expect.same("the most", machine.run(500), 5);
        expect.same("500 behind 2 of 3", machine.look(0), 1);
        expect.same("how often", machine.register(1), 168);
        PredicateMachine before = Code.fresh().line(Code.NOTHING).line(Code.END).taken();
        expect.same("spent before the END", before.run(1), 5);
        expect.same("then the END", before.run(1), 0);
    }

    private static void fault(Expect expect, String what, Code code, int at, int due) {
        PredicateMachine machine = code.line(Code.END).taken();
        expect.same(what, machine.run(100), due);
        expect.same(what + ": where", machine.look(0), at);
        expect.same(what + ": again", machine.run(1), due);
        expect.same(what + ": where again", machine.look(0), at);
    }

    private static Code framed() {
        return Code.fresh().line(Code.FRAME, 3, 0, 0);
    }

    private static void missingRegisters(Expect expect) {
        fault(expect, "SET", framed().line(Code.SET, 11, 0), 1, 1);
        fault(expect, "SET without a frame", Code.fresh().line(Code.SET, 8, 0), 0, 1);
        fault(expect, "ADD a", framed().line(Code.ADD, 31, 1, 1), 1, 1);
        fault(expect, "ADD b", framed().line(Code.ADD, 1, 11, 1), 1, 1);
        fault(expect, "ADD c", framed().line(Code.ADD, 1, 1, 11), 1, 1);
        fault(expect, "LESS b", framed().line(Code.LESS, 1, 11, 1), 1, 1);
        fault(expect, "SAME c", framed().line(Code.SAME, 1, 1, 11), 1, 1);
        fault(expect, "LOAD a", framed().line(Code.LOAD, 11, 1), 1, 1);
        fault(expect, "LOAD b", framed().line(Code.LOAD, 1, 11), 1, 1);
        fault(expect, "ADVANCE a", framed().line(Code.ADVANCE, 11, 1), 1, 1);
        fault(expect, "ADVANCE b", framed().line(Code.ADVANCE, 1, 11), 1, 1);
        fault(expect, "STORE a", framed().line(Code.STORE, 11, 1), 1, 1);
        fault(expect, "STORE b", framed().line(Code.STORE, 1, 11), 1, 1);
        fault(expect, "KEEP a", framed().line(Code.KEEP, 11, 1), 1, 1);
        fault(expect, "KEEP b", framed().line(Code.KEEP, 1, 11), 1, 1);
        fault(expect, "BRING a", framed().line(Code.BRING, 11, 1), 1, 1);
        fault(expect, "BRING b", framed().line(Code.BRING, 1, 11), 1, 1);
        fault(expect, "CHECK a", framed().line(Code.CHECK, 11, 1), 1, 1);
        fault(expect, "before a missing cell", framed().line(Code.SET, 1, 99)
                .line(Code.LOAD, 11, 1), 2, 1);
        fault(expect, "before a NAT", framed().line(Code.SET, 1, 99).line(Code.ADVANCE, 2, 1)
                .line(Code.STORE, 2, 11), 3, 1);
        PredicateMachine machine = framed().line(Code.LESS, 11, 1, 1).line(Code.SET, 10, 11)
                .line(Code.END).taken();
        expect.same("predicates and numbers are no registers", machine.run(10), 0);
    }

    private static void missingCells(Expect expect) {
        int[] wrong = {32, -1, Integer.MIN_VALUE, Integer.MAX_VALUE};
        for (int address : wrong) {
            Code setting = Code.fresh().line(Code.SET, 1, address);
            fault(expect, "LOAD at " + address, setting.line(Code.LOAD, 2, 1), 1, 2);
            setting = Code.fresh().line(Code.SET, 1, address);
            fault(expect, "BRING at " + address, setting.line(Code.BRING, 2, 1), 1, 2);
            setting = Code.fresh().line(Code.SET, 1, address);
            fault(expect, "STORE at " + address, setting.line(Code.STORE, 1, 2), 1, 2);
            setting = Code.fresh().line(Code.SET, 1, address);
            fault(expect, "KEEP at " + address, setting.line(Code.KEEP, 1, 2), 1, 2);
        }
        // Addresses are longs: what is cut off by an int must count.
        PredicateMachine machine = Code.fresh().line(Code.STORE, 1, 2).line(Code.END).taken();
        machine.set(1, 1L << 32);
        machine.set(2, 5);
        expect.same("STORE far away", machine.run(5), 2);
        expect.same("nothing stored", machine.memory(0), 0);
        machine.set(1, 31);
        expect.same("STORE at the last cell", machine.run(5), 0);
        expect.same("stored", machine.memory(31), 5);
    }

    private static Code withNat() {
        return Code.fresh().line(Code.SET, 1, 99).line(Code.ADVANCE, 2, 1);
    }

    private static void natsThatFault(Expect expect) {
        fault(expect, "LOAD", withNat().line(Code.LOAD, 3, 2), 2, 3);
        fault(expect, "BRING", withNat().line(Code.BRING, 3, 2), 2, 3);
        fault(expect, "STORE's address", withNat().line(Code.STORE, 2, 3), 2, 3);
        fault(expect, "STORE's value", withNat().line(Code.STORE, 3, 2), 2, 3);
        fault(expect, "KEEP's address", withNat().line(Code.KEEP, 2, 3), 2, 3);
        fault(expect, "STORE's value before the cell", withNat().line(Code.STORE, 1, 2), 2, 3);
        fault(expect, "KEEP's cell with a NAT value", withNat().line(Code.KEEP, 1, 2), 2, 2);
        // The value with NAT is no cell's number either: NAT is looked at first.
        fault(expect, "the address's NAT before its cell",
                withNat().line(Code.ADD, 3, 2, 1).line(Code.LOAD, 4, 3), 3, 3);
    }

    private static void tooDeep(Expect expect) {
        PredicateMachine calling = Code.fresh().line(Code.CALL, 0).line(Code.END).taken();
        expect.same("forty CALLs", calling.run(40), 5);
        expect.same("forty called", calling.look(5), 40);
        expect.same("one more", calling.run(1), 4);
        expect.same("forty still", calling.look(5), 40);
        expect.same("at the CALL", calling.look(0), 0);
        expect.same("again", calling.run(500), 4);

        Code code = Code.fresh().line(Code.FRAME, 24, 0, 0).line(Code.CALL, 2);
        for (int i = 1; i < 5; i++) {
            code.line(Code.FRAME, 24, 0, 0).line(Code.CALL, 2 * i + 2);
        }
        code.line(Code.FRAME, 0, 0, 0).line(Code.FRAME, 1, 1, 0).line(Code.END);
        PredicateMachine framing = code.taken();
        expect.same("a row of 120 and one", framing.run(100), 4);
        expect.same("at the FRAME", framing.look(0), 11);
        expect.same("its size", framing.look(1), 0);
        expect.same("its outs", framing.look(2), 0);
        expect.same("its place", framing.look(10), 120);
        expect.same("spilled", framing.look(8), 96);
        expect.same("lowest", framing.look(11), 96);
    }

    private static void falseInstructionsDoNothing(Expect expect) {
        Code code = Code.fresh();
        for (int operation = 0; operation <= 20; operation++) {
            int turns = operation == Code.FRAME ? 0 : 31;
            code.when(1, operation, 1, 0, turns);
        }
        code.when(1, Code.SET, 31, 1).when(1, Code.STORE, 31, 31).line(Code.END);
        PredicateMachine machine = code.taken();
        expect.same("no fault", machine.run(100), 0);
        expect.same("to the end", machine.look(0), 23);
        expect.same("nothing set", machine.register(1), 0);
        for (int what = 1; what < 12; what++) {
            expect.same("look " + what, machine.look(what), 0);
        }
        PredicateMachine done = Code.fresh().line(Code.SAME, 2, 0, 0).when(2, Code.SET, 1, 5)
                .when(3, Code.SET, 1, 6).line(Code.END).ran(10);
        expect.same("only the true one", done.register(1), 5);
    }
}
