/** Promise 2: instruction. */
final class InstructionTest {
    public static void main(String[] args) {
        Expect expect = new Expect("InstructionTest");
        PredicateMachine machine = new PredicateMachine();
        refusesWrongInputs(expect, machine);
        for (int count = 1; count <= 40; count++) {
            int operation = count % 21;
            expect.same("draft", machine.instruction(operation, count % 16, 0, 0, 0, true), count);
        }
        expect.badState("the 41st", () -> machine.instruction(0, 0, 0, 0, 0, true));
        expect.badState("the 42nd", () -> machine.instruction(20, 15, 1, 2, 3, false));
        refusesWrongInputs(expect, machine);
        numbersAreFreeUntilTaken(expect);
        fortyRun(expect);
        draftIsNotTheProgram(expect);
        expect.end();
    }

    // A wrong argument is told as such also when the draft is full.
    private static void refusesWrongInputs(Expect expect, PredicateMachine machine) {
        int[] operations = {-1, 21, Integer.MIN_VALUE, Integer.MAX_VALUE};
        for (int operation : operations) {
            expect.badArgument("operation " + operation,
                    () -> machine.instruction(operation, 0, 0, 0, 0, true));
        }
        int[] predicates = {-1, 16, Integer.MIN_VALUE, Integer.MAX_VALUE};
        for (int q : predicates) {
            expect.badArgument("q " + q, () -> machine.instruction(0, q, 0, 0, 0, true));
        }
    }

    private static void numbersAreFreeUntilTaken(Expect expect) {
        PredicateMachine machine = new PredicateMachine();
        int low = Integer.MIN_VALUE;
        int high = Integer.MAX_VALUE;
        expect.same("low numbers", machine.instruction(2, 0, low, low, low, true), 1);
        expect.same("high numbers", machine.instruction(2, 15, high, high, high, false), 2);
    }

    private static void fortyRun(Expect expect) {
        Code code = Code.fresh();
        for (int i = 0; i < 39; i++) {
            code.line(Code.ADD, 1, 1, 2);
        }
        PredicateMachine machine = code.line(Code.END).machine;
        machine.set(2, 3);
        expect.same("groups of forty", machine.take(), 40);
        expect.same("a run of forty", machine.run(40), 0);
        expect.same("thirty-nine times", machine.register(1), 117);
    }

    private static void draftIsNotTheProgram(Expect expect) {
        PredicateMachine machine = Code.fresh().line(Code.SET, 1, 7).line(Code.END).taken();
        expect.same("a new draft", machine.instruction(Code.SET, 0, 1, 9, 0, true), 1);
        expect.same("the program runs", machine.run(5), 0);
        expect.same("its value", machine.register(1), 7);
    }
}
