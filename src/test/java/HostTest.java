/** Promises 6 to 13: set, register, nat, predicate, memory, poke, look, backing. */
final class HostTest {
    private static final int LOW = Integer.MIN_VALUE;
    private static final int HIGH = Integer.MAX_VALUE;

    public static void main(String[] args) {
        Expect expect = new Expect("HostTest");
        sets(expect);
        readsRegisters(expect);
        readsNats(expect);
        readsPredicates(expect);
        readsAndPokesMemory(expect);
        looks(expect);
        readsBacking(expect);
        expect.end();
    }

    private static void sets(Expect expect) {
        PredicateMachine machine = new PredicateMachine();
        for (int register = 1; register <= 7; register++) {
            machine.set(register, Long.MIN_VALUE + register);
        }
        for (int register = 1; register <= 7; register++) {
            expect.same("set", machine.register(register), Long.MIN_VALUE + register);
        }
        int[] wrong = {0, 8, 31, 32, -1, LOW, HIGH};
        for (int register : wrong) {
            expect.badArgument("set " + register, () -> machine.set(register, 1));
        }
        expect.same("register 0", machine.register(0), 0);
        new Code(machine).line(Code.FRAME, 3, 0, 0).line(Code.SET, 1, -1).line(Code.ADVANCE, 1, 1)
                .line(Code.END).ran(9);
        expect.badArgument("set a stacked one that is there", () -> machine.set(8, 1));
        expect.same("it is as it was", machine.register(8), 0);
        expect.same("NAT before", machine.nat(1), true);
        machine.set(1, 3);
        expect.same("NAT behind a set", machine.nat(1), false);
        expect.same("set over NAT", machine.register(1), 3);
    }

    private static void readsRegisters(Expect expect) {
        PredicateMachine machine = new PredicateMachine();
        int[] wrong = {8, 31, 32, -1, LOW, HIGH};
        for (int register : wrong) {
            expect.badArgument("register " + register, () -> machine.register(register));
        }
        new Code(machine).line(Code.FRAME, 3, 0, 0).line(Code.SET, 10, 5).line(Code.FRAME, 24, 0, 0)
                .line(Code.SET, 31, 6).line(Code.END).taken();
        machine.run(2);
        expect.same("the last of three", machine.register(10), 5);
        expect.badArgument("beyond three", () -> machine.register(11));
        machine.run(9);
        expect.same("the last of all", machine.register(31), 6);
        expect.badArgument("beyond all", () -> machine.register(32));
        expect.same("register 0", machine.register(0), 0);
    }

    private static void readsNats(Expect expect) {
        PredicateMachine machine = new PredicateMachine();
        int[] wrong = {8, 31, 32, -1, LOW, HIGH};
        for (int register : wrong) {
            expect.badArgument("nat " + register, () -> machine.nat(register));
        }
        new Code(machine).line(Code.FRAME, 3, 0, 0).line(Code.SET, 1, 32).line(Code.ADVANCE, 10, 1)
                .line(Code.ADVANCE, 2, 10).line(Code.END).ran(9);
        expect.same("a stacked one", machine.nat(10), true);
        expect.same("a static one", machine.nat(2), true);
        expect.same("another", machine.nat(9), false);
        expect.same("register 0", machine.nat(0), false);
        expect.badArgument("beyond three", () -> machine.nat(11));
    }

    private static void readsPredicates(Expect expect) {
        PredicateMachine machine = new PredicateMachine();
        int[] wrong = {16, -1, LOW, HIGH};
        for (int predicate : wrong) {
            expect.badArgument("predicate " + predicate, () -> machine.predicate(predicate));
        }
        new Code(machine).line(Code.SAME, 1, 0, 0).line(Code.LESS, 14, 0, 0).line(Code.END).ran(9);
        for (int predicate = 0; predicate < 16; predicate++) {
            boolean due = predicate == 0 || predicate == 1 || predicate == 15;
            expect.same("predicate " + predicate, machine.predicate(predicate), due);
        }
    }

    private static void readsAndPokesMemory(Expect expect) {
        PredicateMachine machine = new PredicateMachine();
        int[] wrong = {32, -1, LOW, HIGH};
        for (int cell : wrong) {
            expect.badArgument("memory " + cell, () -> machine.memory(cell));
            expect.badArgument("poke " + cell, () -> machine.poke(cell, 1));
        }
        for (int cell = 0; cell < 32; cell++) {
            machine.poke(cell, Long.MAX_VALUE - cell);
        }
        for (int cell = 0; cell < 32; cell++) {
            expect.same("memory " + cell, machine.memory(cell), Long.MAX_VALUE - cell);
        }
        new Code(machine).line(Code.SET, 1, -1).line(Code.ADVANCE, 2, 1).line(Code.KEEP, 0, 2)
                .line(Code.BRING, 3, 0).line(Code.NOTHING).line(Code.BRING, 4, 0).line(Code.END).taken();
        machine.run(4);
        expect.same("a cell with NAT", machine.memory(0), 0);
        expect.same("its NAT", machine.nat(3), true);
        machine.poke(0, 8);
        machine.run(9);
        expect.same("poked", machine.register(4), 8);
        expect.same("without NAT", machine.nat(4), false);
    }

    private static void looks(Expect expect) {
        Code code = Code.fresh().line(Code.FRAME, 20, 4, 0).line(Code.CALL, 3).line(Code.END);
        code.line(Code.FRAME, 18, 10, 16).line(Code.COUNT, 7, 9).line(Code.TURN, 6);
        PredicateMachine machine = code.line(Code.CALL, 7).line(Code.FRAME, 24, 2, 8)
                .line(Code.RETURN).taken();
        // Behind each instruction, what looks 0 to 11 answer.
        int[][] due = {
            {1, 20, 4, 0, 0, 0, 0, 0, 0, 0, 0, 0},
            {3, 4, 0, 0, 0, 1, 0, 0, 0, 0, 16, 0},
            {4, 18, 10, 16, 0, 1, 0, 0, 10, 0, 16, 10},
            {5, 18, 10, 16, 0, 1, 7, 9, 10, 0, 16, 10},
            {6, 18, 10, 16, 15, 1, 6, 9, 10, 0, 16, 10},
            {7, 10, 0, 0, 0, 2, 6, 9, 10, 0, 24, 10},
            {8, 24, 2, 8, 0, 2, 6, 9, 24, 0, 24, 24},
            {7, 18, 10, 16, 15, 1, 6, 9, 24, 8, 16, 16}
        };
        for (int[] row : due) {
            expect.same("one more", machine.run(1), 5);
            for (int what = 0; what < row.length; what++) {
                expect.same("look " + what, machine.look(what), row[what]);
            }
        }
        int[] wrong = {12, -1, LOW, HIGH};
        for (int what : wrong) {
            expect.badArgument("look " + what, () -> machine.look(what));
        }
    }

    private static void readsBacking(Expect expect) {
        PredicateMachine machine = new PredicateMachine();
        int[] wrong = {120, -1, LOW, HIGH};
        for (int k : wrong) {
            expect.badArgument("backing " + k, () -> machine.backing(k));
        }
        expect.same("backing 0", machine.backing(0), 0);
        expect.same("backing 119", machine.backing(119), 0);
        Code code = new Code(machine).line(Code.FRAME, 1, 0, 0).line(Code.SET, 8, 5);
        code.line(Code.CALL, 6).line(Code.SET, 8, 9).line(Code.CALL, 6).line(Code.END);
        code.line(Code.FRAME, 24, 0, 0).line(Code.RETURN).taken();
        machine.run(4);
        expect.same("spilled", machine.backing(0), 5);
        machine.run(2);
        expect.same("filled, then written: the store is as it was", machine.backing(0), 5);
        expect.same("the register", machine.register(8), 9);
        machine.run(9);
        expect.same("spilled again", machine.backing(0), 9);
        expect.same("how many", machine.look(8), 2);
    }
}
