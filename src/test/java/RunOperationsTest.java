/** Promise 5: what the operations on registers, predicates and memory do. */
final class RunOperationsTest {
    public static void main(String[] args) {
        Expect expect = new Expect("RunOperationsTest");
        calculates(expect);
        carriesNat(expect);
        compares(expect);
        loadsAndAdvances(expect);
        keepsAndBrings(expect);
        jumps(expect);
        doesOneAfterTheOther(expect);
        expect.end();
    }

    private static long calculated(int operation, long r, long s) {
        PredicateMachine machine = Code.fresh().line(operation, 3, 1, 2).line(Code.END).taken();
        machine.set(1, r);
        machine.set(2, s);
        machine.run(5);
        return machine.register(3);
    }

    private static void calculates(Expect expect) {
        expect.same("ADD", calculated(Code.ADD, 7, -3), 4);
        expect.same("SUBTRACT", calculated(Code.SUBTRACT, 7, -3), 10);
        expect.same("MULTIPLY", calculated(Code.MULTIPLY, 7, -3), -21);
        expect.same("AND", calculated(Code.AND, 7, -3), 5);
        long high = Long.MAX_VALUE;
        expect.same("ADD wraps", calculated(Code.ADD, high, 1), Long.MIN_VALUE);
        expect.same("SUBTRACT wraps", calculated(Code.SUBTRACT, Long.MIN_VALUE, 1), high);
        expect.same("MULTIPLY is of longs", calculated(Code.MULTIPLY, 1L << 40, 1L << 20), 1L << 60);
        expect.same("MULTIPLY wraps", calculated(Code.MULTIPLY, high, high), 1);
        expect.same("AND is of longs", calculated(Code.AND, -1, 1L << 50), 1L << 50);
        PredicateMachine machine = Code.fresh().line(Code.SET, 1, Integer.MIN_VALUE)
                .line(Code.SET, 2, Integer.MAX_VALUE).line(Code.SUBTRACT, 3, 0, 2)
                .line(Code.ADD, 2, 2, 2).line(Code.END).ran(10);
        expect.same("SET low", machine.register(1), Integer.MIN_VALUE);
        expect.same("from register 0", machine.register(3), -Integer.MAX_VALUE);
        expect.same("onto itself", machine.register(2), 2L * Integer.MAX_VALUE);
    }

    private static void carriesNat(Expect expect) {
        for (int operation = Code.ADD; operation <= Code.AND; operation++) {
            Code code = Code.fresh().line(Code.SET, 1, 99).line(Code.ADVANCE, 2, 1);
            code.line(operation, 3, 1, 2).line(operation, 4, 2, 1).line(operation, 5, 1, 1);
            PredicateMachine machine = code.line(Code.END).ran(10);
            expect.same("NAT of s " + operation, machine.nat(3), true);
            expect.same("NAT of r " + operation, machine.nat(4), true);
            expect.same("no NAT " + operation, machine.nat(5), false);
        }
        Code code = Code.fresh().line(Code.SET, 1, 99).line(Code.ADVANCE, 2, 1);
        code.line(Code.SUBTRACT, 3, 2, 1).line(Code.SET, 2, 4).line(Code.END);
        PredicateMachine machine = code.ran(10);
        expect.same("a value there is still", machine.register(3), -99);
        expect.same("SET takes NAT away", machine.nat(2), false);
    }

    private static String compared(int operation, long r, long s) {
        PredicateMachine machine = Code.fresh().line(operation, 7, 1, 2).line(Code.END).taken();
        machine.set(1, r);
        machine.set(2, s);
        machine.run(5);
        return machine.predicate(7) + " " + machine.predicate(8);
    }

    private static void compares(Expect expect) {
        expect.same("LESS below", compared(Code.LESS, -1, 0), "true false");
        expect.same("LESS same", compared(Code.LESS, 5, 5), "false true");
        expect.same("LESS above", compared(Code.LESS, 6, 5), "false true");
        expect.same("LESS far", compared(Code.LESS, Long.MIN_VALUE, Long.MAX_VALUE), "true false");
        expect.same("LESS of longs", compared(Code.LESS, 1, 1L << 32), "true false");
        expect.same("SAME", compared(Code.SAME, -9, -9), "true false");
        expect.same("SAME below", compared(Code.SAME, -9, 9), "false true");
        expect.same("SAME of longs", compared(Code.SAME, 0, 1L << 32), "false true");
        for (int operation = Code.LESS; operation <= Code.SAME; operation++) {
            Code code = Code.fresh().line(Code.SET, 1, 99).line(Code.ADVANCE, 2, 1);
            code.line(Code.SAME, 4, 0, 0).line(Code.SAME, 7, 0, 1);
            code.line(operation, 4, 2, 1).line(operation, 7, 1, 2).line(operation, 9, 2, 2);
            PredicateMachine machine = code.line(Code.END).ran(10);
            expect.same("NAT of r", machine.predicate(4) || machine.predicate(5), false);
            expect.same("NAT of s", machine.predicate(7) || machine.predicate(8), false);
            expect.same("NAT of both", machine.predicate(9) || machine.predicate(10), false);
        }
    }

    private static void loadsAndAdvances(Expect expect) {
        Code code = Code.fresh().line(Code.SET, 1, 31).line(Code.LOAD, 2, 1).line(Code.ADVANCE, 3, 1);
        code.line(Code.LOAD, 4, 0).line(Code.SET, 1, 32).line(Code.ADVANCE, 4, 1);
        code.line(Code.SET, 5, -1).line(Code.ADVANCE, 5, 5).line(Code.ADVANCE, 6, 4).line(Code.END);
        PredicateMachine machine = code.taken();
        machine.poke(31, 1L << 55);
        machine.poke(0, 7);
        expect.same("runs", machine.run(50), 0);
        expect.same("LOAD", machine.register(2), 1L << 55);
        expect.same("LOAD's nat", machine.nat(2), false);
        expect.same("ADVANCE", machine.register(3), 1L << 55);
        expect.same("ADVANCE's nat", machine.nat(3), false);
        for (int register = 4; register <= 6; register++) {
            expect.same("0 of " + register, machine.register(register), 0);
            expect.same("NAT of " + register, machine.nat(register), true);
        }
        new Code(machine).line(Code.LOAD, 4, 0).line(Code.ADVANCE, 5, 0).line(Code.END).ran(9);
        expect.same("LOAD over NAT", machine.nat(4), false);
        expect.same("ADVANCE over NAT", machine.nat(5), false);
        expect.same("cell 0", machine.register(5), 7);
    }

    private static void keepsAndBrings(Expect expect) {
        Code code = Code.fresh().line(Code.SET, 1, 99).line(Code.ADVANCE, 2, 1);
        code.line(Code.ADD, 2, 2, 1).line(Code.SET, 3, 4).line(Code.KEEP, 3, 2);
        code.line(Code.BRING, 4, 3).line(Code.LOAD, 5, 3).line(Code.ADVANCE, 6, 3);
        code.line(Code.KEEP, 0, 3).line(Code.BRING, 7, 0).line(Code.END);
        PredicateMachine machine = code.ran(50);
        expect.same("KEEP's value", machine.memory(4), 99);
        expect.same("BRING's value", machine.register(4), 99);
        expect.same("BRING's nat", machine.nat(4), true);
        expect.same("LOAD leaves NAT", machine.nat(5), false);
        expect.same("LOAD's value", machine.register(5), 99);
        expect.same("ADVANCE leaves NAT", machine.nat(6), false);
        expect.same("ADVANCE's value", machine.register(6), 99);
        expect.same("KEEP without NAT", machine.memory(0), 4);
        expect.same("BRING without NAT", machine.nat(7), false);
        new Code(machine).line(Code.STORE, 3, 1).line(Code.BRING, 4, 3).line(Code.END).ran(50);
        expect.same("STORE takes the NAT away", machine.nat(4), false);
        expect.same("STORE's value", machine.memory(4), 99);
    }

    private static void jumps(Expect expect) {
        Code code = Code.fresh().line(Code.SET, 1, 99).line(Code.ADVANCE, 2, 1);
        code.line(Code.CHECK, 1, 9).line(Code.CHECK, 0, 9).line(Code.CHECK, 2, 6);
        code.line(Code.SET, 3, 1).line(Code.BRANCH, 8).line(Code.SET, 3, 2).line(Code.END);
        PredicateMachine machine = code.line(Code.BRANCH, 5).ran(50);
        expect.same("the way", machine.register(3), 0);
        expect.same("the end", machine.look(0), 8);
    }

    private static void doesOneAfterTheOther(Expect expect) {
        Code code = Code.fresh().open(Code.ADD, 3, 1, 2).open(Code.SET, 1, 8).line(Code.BRANCH, 4);
        code.line(Code.END).line(Code.END);
        PredicateMachine machine = code.taken();
        machine.set(1, 2);
        machine.set(2, 3);
        machine.run(9);
        expect.same("read before it was written", machine.register(3), 5);
        expect.same("written", machine.register(1), 8);
        expect.same("branched out of a group", machine.look(0), 4);
        Code late = Code.fresh().line(Code.BRANCH, 2).open(Code.SET, 1, 1).open(Code.SET, 2, 2);
        PredicateMachine middle = late.line(Code.END).ran(9);
        expect.same("into the middle of a group", middle.register(2), 2);
        expect.same("not its first", middle.register(1), 0);
    }
}
