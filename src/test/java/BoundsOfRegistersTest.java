/** The bounds that the document's terms name for registers, frames, predicates and rotation. */
final class BoundsOfRegistersTest {
    private static final int LOW = Integer.MIN_VALUE;
    private static final int HIGH = Integer.MAX_VALUE;

    public static void main(String[] args) {
        Expect expect = new Expect("BoundsOfRegistersTest");
        registersHoldLongs(expect);
        registersHaveNats(expect);
        zeroIsZero(expect);
        staticsStay(expect);
        sizes(expect);
        outs(expect);
        turns(expect);
        predicates(expect);
        predicatesThatRotate(expect);
        baseAtFirst(expect);
        registersAtEachBase(expect, 8);
        registersAtEachBase(expect, 16);
        registersWithoutTurns(expect);
        predicatesAtEachBase(expect);
        expect.end();
    }

    private static void registersHoldLongs(Expect expect) {
        expect.sentence("REGISTERS 0 .. 31 hold longs, each with a NAT bit.");
        long[] values = {Long.MIN_VALUE, Long.MAX_VALUE, -1, 1L << 32};
        for (long value : values) {
            Code code = Code.fresh().line(Code.FRAME, 24, 0, 0);
            for (int register = 1; register <= 31; register++) {
                code.line(Code.LOAD, register, 0);
            }
            PredicateMachine machine = code.line(Code.END).taken();
            machine.poke(0, value);
            expect.same("it ends", machine.run(33), 0);
            for (int register = 1; register <= 31; register++) {
                expect.same("register " + register, machine.register(register), value);
            }
            int[] none = {-1, 32, LOW, HIGH};
            for (int register : none) {
                expect.badArgument("register " + register, () -> machine.register(register));
                expect.badArgument("nat " + register, () -> machine.nat(register));
            }
        }
    }

    private static void registersHaveNats(Expect expect) {
        expect.sentence("REGISTERS 0 .. 31 hold longs, each with a NAT bit.");
        for (int other = 2; other <= 31; other++) {
            Code code = Code.fresh().line(Code.FRAME, 24, 0, 0).line(Code.SET, 1, 32);
            PredicateMachine machine = code.line(Code.ADVANCE, other, 1).line(Code.END).ran(9);
            for (int register = 0; register <= 31; register++) {
                expect.same("nat " + register, machine.nat(register), register == other);
            }
        }
    }

    private static void zeroIsZero(Expect expect) {
        expect.sentence("0 is always 0, without NAT.");
        Code code = Code.fresh().line(Code.SET, 1, 32).line(Code.ADVANCE, 2, 1);
        code.line(Code.KEEP, 0, 2).line(Code.BRING, 3, 0).line(Code.CHECK, 0, 9);
        code.line(Code.ADD, 4, 0, 0).line(Code.STORE, 0, 1).line(Code.SAME, 1, 4, 0);
        PredicateMachine machine = code.line(Code.END).line(Code.BRANCH, 9).taken();
        expect.badArgument("set", () -> machine.set(0, 7));
        expect.same("its value behind a set", machine.register(0), 0);
        expect.same("it ends", machine.run(30), 0);
        expect.same("cell 0 was brought", machine.nat(3), true);
        expect.same("0 + 0", machine.register(4), 0);
        expect.same("without NAT", machine.nat(4), false);
        expect.same("cell 0 was stored", machine.memory(0), 32);
        expect.same("the same as 0", machine.predicate(1), true);
        expect.same("its value", machine.register(0), 0);
        expect.same("its NAT", machine.nat(0), false);
        for (int operation = Code.SET; operation <= Code.BRING; operation++) {
            boolean writes = operation <= Code.AND || operation == Code.LOAD
                    || operation == Code.ADVANCE || operation == Code.BRING;
            if (writes) {
                String found = Code.fresh().line(operation, 0, 1, 1).line(Code.END).faultFound();
                expect.same("writing it with " + operation, found, "1 at 0");
            }
        }
    }

    private static void staticsStay(Expect expect) {
        expect.sentence("1 .. 7 are STATIC.");
        Code code = Code.fresh().line(Code.FRAME, 24, 24, 16).line(Code.COUNT, 1, 0);
        code.line(Code.TURN, 3).line(Code.CALL, 4).line(Code.FRAME, 0, 0, 0).line(Code.RETURN);
        PredicateMachine machine = code.taken();
        for (int register = 1; register <= 7; register++) {
            machine.set(register, 100 + register);
        }
        expect.badArgument("set 8 is not static", () -> machine.set(8, 1));
        for (int step = 0; step <= 6; step++) {
            for (int register = 1; register <= 7; register++) {
                expect.same("behind " + step, machine.register(register), 100 + register);
            }
            machine.run(1);
        }
    }

    private static void sizes(Expect expect) {
        expect.sentence("register 8 + k is the one at k of the current FRAME, which has SIZE 0 .. 24 registers");
        for (int size = 0; size <= 24; size++) {
            Code code = Code.fresh().line(Code.FRAME, size, 0, 0);
            for (int k = 0; k < size; k++) {
                code.line(Code.SET, 8 + k, 50 + k);
            }
            PredicateMachine machine = code.line(Code.END).ran(30);
            for (int k = 0; k < size; k++) {
                expect.same("the one at " + k, machine.register(8 + k), 50 + k);
                expect.same("its NAT", machine.nat(8 + k), false);
            }
            int beyond = 8 + size;
            expect.badArgument("the first beyond " + size, () -> machine.register(beyond));
            expect.badArgument("its NAT", () -> machine.nat(beyond));
            expect.badArgument("the last beyond " + size, () -> machine.register(32));
        }
        int[] none = {-1, 25, LOW, HIGH};
        for (int size : none) {
            Code code = Code.fresh().line(Code.FRAME, size, 0, 0).line(Code.END);
            expect.same("size " + size, code.faultFound(), "1 at 0");
        }
    }

    private static void outs(Expect expect) {
        expect.sentence("the last OUTS of which are for what is called");
        for (int outs = 0; outs <= 5; outs++) {
            Code code = Code.fresh().line(Code.FRAME, 5, outs, 0);
            for (int k = 0; k < 5; k++) {
                code.line(Code.SET, 8 + k, 50 + k);
            }
            PredicateMachine machine = code.line(Code.CALL, 7).line(Code.END).taken();
            machine.run(7);
            expect.same("the size of what is called", machine.look(1), outs);
            expect.same("where it begins", machine.look(10), 5 - outs);
            for (int k = 0; k < outs; k++) {
                expect.same("out " + k + " of " + outs, machine.register(8 + k), 55 - outs + k);
            }
            int beyond = 8 + outs;
            expect.badArgument("no more than " + outs, () -> machine.register(beyond));
        }
        int[] none = {-1, 6, LOW, HIGH};
        for (int outs : none) {
            Code code = Code.fresh().line(Code.FRAME, 5, outs, 0).line(Code.END);
            expect.same("outs " + outs + " of 5", code.faultFound(), "1 at 0");
        }
    }

    private static PredicateMachine turning(int turns, int loops) {
        Code code = Code.fresh().line(Code.FRAME, 24, 0, turns).line(Code.COUNT, loops, 0);
        for (int k = 0; k < 24; k++) {
            code.line(Code.SET, 8 + k, 50 + k);
        }
        PredicateMachine machine = code.line(Code.TURN, 26).line(Code.BRANCH, 26).taken();
        machine.run(26);
        return machine;
    }

    private static void turns(Expect expect) {
        expect.sentence("the first TURNS of which (0, 8 or 16) ROTATE");
        for (int turns = 0; turns <= 16; turns += 8) {
            PredicateMachine machine = turning(turns, 1);
            machine.run(1);
            for (int k = 0; k < 24; k++) {
                int due = k >= turns ? k : k == 0 ? turns - 1 : k - 1;
                expect.same("at " + k + " of " + turns, machine.register(8 + k), 50 + due);
            }
        }
        for (int turns = -8; turns <= 32; turns++) {
            boolean good = turns == 0 || turns == 8 || turns == 16;
            Code code = Code.fresh().line(Code.FRAME, 24, 0, turns).line(Code.END);
            expect.same("turns " + turns, code.faultFound(), good ? "0 at -1" : "1 at 0");
        }
    }

    private static void predicates(Expect expect) {
        expect.sentence("PREDICATES 0 .. 15 are true or false; 0 is always true; 8 .. 15 rotate.");
        for (int first = 1; first <= 14; first++) {
            PredicateMachine machine = Code.fresh().line(Code.SAME, first, 0, 0)
                    .line(Code.LESS, first, 0, 0).line(Code.END).taken();
            machine.run(1);
            for (int p = 0; p <= 15; p++) {
                expect.same("SAME " + first + ", " + p, machine.predicate(p), p == 0 || p == first);
            }
            machine.run(1);
            for (int p = 0; p <= 15; p++) {
                expect.same("LESS " + first + ", " + p, machine.predicate(p), p == 0 || p == first + 1);
            }
        }
        PredicateMachine machine = new PredicateMachine();
        int[] none = {-1, 16, LOW, HIGH};
        for (int p : none) {
            expect.badArgument("predicate " + p, () -> machine.predicate(p));
        }
        for (int operation = Code.LESS; operation <= Code.SAME; operation++) {
            String found = Code.fresh().line(operation, 0, 1, 1).line(Code.END).faultFound();
            expect.same("writing predicate 0", found, "1 at 0");
        }
    }

    private static void predicatesThatRotate(Expect expect) {
        expect.sentence("PREDICATES 0 .. 15 are true or false; 0 is always true; 8 .. 15 rotate.");
        for (int first = 1; first <= 14; first++) {
            PredicateMachine machine = Code.fresh().line(Code.COUNT, 0, 1).line(Code.SAME, first, 0, 0)
                    .line(Code.TURN, 3).line(Code.END).taken();
            machine.run(3);
            int due = first < 8 ? first : first + 1;
            for (int p = 0; p <= 15; p++) {
                expect.same(first + " behind a TURN, " + p, machine.predicate(p), p == 0 || p == due);
            }
        }
        // The one that was 15 comes round to 8, which is the one that the TURN writes.
        PredicateMachine machine = Code.fresh().line(Code.COUNT, 0, 1).line(Code.LESS, 14, 0, 0)
                .line(Code.TURN, 3).line(Code.END).taken();
        machine.run(2);
        expect.same("15 before", machine.predicate(15), true);
        machine.run(1);
        for (int p = 1; p <= 15; p++) {
            expect.same("15 behind a TURN, " + p, machine.predicate(p), false);
        }
    }

    private static void baseAtFirst(Expect expect) {
        expect.sentence("With the rotation base B (0 .. 15, at first 0)");
        expect.same("in a new object", new PredicateMachine().look(4), 0);
        PredicateMachine machine = Code.fresh().line(Code.COUNT, 20, 0).line(Code.TURN, 1)
                .line(Code.END).taken();
        expect.same("in a new program", machine.look(4), 0);
        machine.run(1);
        int[] due = {15, 14, 13, 12, 11, 10, 9, 8, 7, 6, 5, 4, 3, 2, 1, 0, 15, 14, 13, 12};
        for (int base : due) {
            machine.run(1);
            expect.same("the next", machine.look(4), base);
        }
        new Code(machine).line(Code.END).taken();
        expect.same("in the next program", machine.look(4), 0);
    }

    private static void registersAtEachBase(Expect expect, int turns) {
        expect.sentence("register 8 + k, when k is below TURNS, is at (k + B) modulo TURNS of the frame");
        PredicateMachine machine = turning(turns, 17);
        for (int turn = 0; turn <= 17; turn++) {
            int base = machine.look(4);
            for (int k = 0; k < 24; k++) {
                int place = k < turns ? (k + base) % turns : k;
                expect.same("B " + base + ", turns " + turns + ", k " + k, machine.register(8 + k), 50 + place);
            }
            machine.run(1);
        }
    }

    private static void registersWithoutTurns(Expect expect) {
        expect.sentence("register 8 + k, when k is below TURNS, is at (k + B) modulo TURNS of the frame");
        PredicateMachine machine = turning(0, 17);
        for (int turn = 0; turn <= 17; turn++) {
            expect.same("the first", machine.register(8), 50);
            expect.same("the last", machine.register(31), 73);
            machine.run(1);
        }
    }

    // A bit goes in at predicate 9 before each TURN, and is seen at 10 .. 15 behind the next six.
    private static void predicatesAtEachBase(Expect expect) {
        expect.sentence("predicate 8 + k is the one at (k + B) modulo 8 of the eight.");
        PredicateMachine machine = Code.fresh().line(Code.COUNT, 0, 20).line(Code.LESS, 8, 0, 1)
                .line(Code.TURN, 1).line(Code.END).taken();
        machine.run(1);
        boolean[] bits = {
            true, false, false, true, true, false, true, true, true, false,
            false, false, true, false, true, false, false, true, true, true
        };
        for (int turn = 0; turn < bits.length; turn++) {
            machine.set(1, bits[turn] ? 0 : 1);
            machine.run(2);
            expect.same("8 behind turn " + turn, machine.predicate(8), false);
            expect.same("9 behind turn " + turn, machine.predicate(9), !bits[turn]);
            for (int p = 10; p <= 15; p++) {
                boolean due = turn >= p - 10 && bits[turn - (p - 10)];
                expect.same(p + " behind turn " + turn, machine.predicate(p), due);
            }
        }
    }
}
