/** Promise 1: a new object. */
final class NewObjectTest {
    public static void main(String[] args) {
        Expect expect = new Expect("NewObjectTest");
        PredicateMachine machine = new PredicateMachine();
        for (int register = 0; register < 8; register++) {
            expect.same("register " + register, machine.register(register), 0);
            expect.same("nat " + register, machine.nat(register), false);
        }
        for (int predicate = 0; predicate < 16; predicate++) {
            expect.same("predicate " + predicate, machine.predicate(predicate), predicate == 0);
        }
        for (int cell = 0; cell < 32; cell++) {
            expect.same("memory " + cell, machine.memory(cell), 0);
        }
        for (int what = 0; what < 12; what++) {
            expect.same("look " + what, machine.look(what), 0);
        }
        for (int k = 0; k < 120; k++) {
            expect.same("backing " + k, machine.backing(k), 0);
        }
        expect.same("fault", machine.fault(0), 0);
        expect.same("fault's instruction", machine.fault(1), -1);
        expect.badArgument("a stacked register", () -> machine.register(8));
        expect.badState("a run without a program", () -> machine.run(1));
        expect.same("the draft was empty", machine.instruction(0, 0, 0, 0, 0, true), 1);
        memoryIsWithoutNat(expect);
        objectsAreApart(expect);
        expect.end();
    }

    private static void memoryIsWithoutNat(Expect expect) {
        PredicateMachine machine = Code.fresh().line(Code.BRING, 1, 0).line(Code.END).ran(5);
        expect.same("nat of a cell at first", machine.nat(1), false);
    }

    private static void objectsAreApart(Expect expect) {
        PredicateMachine one = new PredicateMachine();
        PredicateMachine other = new PredicateMachine();
        one.set(1, 5);
        one.poke(1, 6);
        expect.same("the other's register", other.register(1), 0);
        expect.same("the other's cell", other.memory(1), 0);
    }
}
