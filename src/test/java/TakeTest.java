/** Promise 3: take. */
final class TakeTest {
    public static void main(String[] args) {
        Expect expect = new Expect("TakeTest");
        countsGroups(expect);
        emptiesTheDraft(expect);
        beginsAnew(expect);
        keepsMemoryAndStatics(expect);
        refusedDraftChangesNothingElse(expect);
        expect.end();
    }

    private static void countsGroups(Expect expect) {
        PredicateMachine machine = Code.fresh().line(Code.END).machine;
        expect.same("one group", machine.take(), 1);
        Code code = new Code(machine).open(Code.SET, 1, 1).open(Code.SET, 2, 1).line(Code.NOTHING);
        code.open(Code.SET, 1, 1).line(Code.BRANCH, 0);
        expect.same("two groups", machine.take(), 2);
    }

    private static void emptiesTheDraft(Expect expect) {
        PredicateMachine machine = Code.fresh().line(Code.END).taken();
        expect.badArgument("an empty draft", machine::take);
        new Code(machine).line(Code.NOTHING).line(Code.END).taken();
        expect.badArgument("empty behind a second program", machine::take);
        new Code(machine).line(Code.NOTHING);
        expect.badArgument("a draft with a fault", machine::take);
        expect.badArgument("empty behind that", machine::take);
        expect.same("that it was empty", machine.fault(0), 4);
        expect.same("a new draft", machine.instruction(Code.END, 0, 0, 0, 0, true), 1);
    }

    private static void beginsAnew(Expect expect) {
        Code code = Code.fresh().line(Code.FRAME, 24, 8, 16).line(Code.COUNT, 3, 2);
        code.line(Code.SET, 8, 77).line(Code.SAME, 3, 0, 0).line(Code.LESS, 8, 0, 0);
        code.line(Code.TURN, 6).line(Code.CALL, 7).line(Code.FRAME, 20, 0, 8);
        code.line(Code.CALL, 9).line(Code.FRAME, 8, 0, 0).line(Code.CALL, 12).line(Code.END);
        code.line(Code.FRAME, 24, 0, 0).line(Code.RETURN);
        PredicateMachine machine = code.ran(50);
        expect.same("called before", machine.look(5), 2);
        expect.same("spilled before", machine.look(8), 44);
        expect.same("filled before", machine.look(9), 8);
        expect.same("backing before", machine.backing(0), 77);
        new Code(machine).line(Code.FRAME, 24, 0, 0).line(Code.END).taken();
        for (int what = 0; what < 12; what++) {
            expect.same("look " + what, machine.look(what), 0);
        }
        for (int k = 0; k < 120; k++) {
            expect.same("backing " + k, machine.backing(k), 0);
        }
        for (int predicate = 1; predicate < 16; predicate++) {
            expect.same("predicate " + predicate, machine.predicate(predicate), false);
        }
        expect.badArgument("a stacked register", () -> machine.register(8));
        expect.same("runs though the former had ended", machine.run(5), 0);
        for (int register = 8; register < 32; register++) {
            expect.same("register " + register, machine.register(register), 0);
        }
    }

    private static void keepsMemoryAndStatics(Expect expect) {
        Code code = Code.fresh().line(Code.SET, 1, 5).line(Code.SET, 3, 40);
        code.line(Code.ADVANCE, 2, 3).line(Code.KEEP, 1, 2).line(Code.STORE, 0, 1).line(Code.END);
        PredicateMachine machine = code.ran(50);
        new Code(machine).line(Code.BRING, 4, 1).line(Code.END).taken();
        expect.same("register 1", machine.register(1), 5);
        expect.same("nat 2", machine.nat(2), true);
        expect.same("memory 0", machine.memory(0), 5);
        machine.run(5);
        expect.same("the nat of cell 5", machine.nat(4), true);
    }

    private static void refusedDraftChangesNothingElse(Expect expect) {
        Code code = Code.fresh().line(Code.FRAME, 3, 1, 0).line(Code.SET, 8, 9).line(Code.END);
        PredicateMachine machine = code.taken();
        machine.run(2);
        new Code(machine).line(Code.SET, 0, 1);
        expect.badArgument("a wrong draft", machine::take);
        expect.badArgument("an empty draft", machine::take);
        expect.same("where it goes on", machine.look(0), 2);
        expect.same("register 8", machine.register(8), 9);
        expect.same("the former program's end", machine.run(1), 0);
        new Code(machine).line(Code.NOTHING);
        expect.badArgument("a wrong draft behind the end", machine::take);
        expect.badState("it has ended still", () -> machine.run(1));
    }
}
