/** The bounds that the document's terms name for the program and for operations 0 to 14. */
final class BoundsOfProgramTest {
    private static final long LOW = Long.MIN_VALUE;
    private static final long HIGH = Long.MAX_VALUE;
    private static final long[] NO_CELLS = {-1, 32, 1L << 32, (1L << 32) + 31, LOW, HIGH};

    public static void main(String[] args) {
        Expect expect = new Expect("BoundsOfProgramTest");
        fortyInstructions(expect);
        falseOnesDoNothing(expect);
        eachPredicateAsQ(expect);
        groups(expect);
        nothing(expect);
        set(expect);
        calculating(expect);
        calculatingWithNat(expect);
        comparing(expect);
        comparingWithNat(expect);
        loading(expect);
        advancing(expect);
        storing(expect);
        keeping(expect);
        bringing(expect);
        checking(expect);
        branching(expect);
        expect.end();
    }

    private static void fortyInstructions(Expect expect) {
        expect.sentence("THE PROGRAM has at most 40 instructions 0, 1, ..");
        Code code = Code.fresh().line(Code.BRANCH, 39);
        for (int i = 1; i < 39; i++) {
            code.line(Code.SET, 1, i);
        }
        PredicateMachine machine = code.machine;
        expect.same("the fortieth", machine.instruction(Code.END, 0, 0, 0, 0, true), 40);
        expect.badState("the forty-first", () -> machine.instruction(Code.END, 0, 0, 0, 0, true));
        expect.same("forty are taken", machine.take(), 40);
        expect.same("it ends", machine.run(2), 0);
        expect.same("at the fortieth", machine.look(0), 39);
        PredicateMachine one = Code.fresh().line(Code.END).machine;
        expect.same("one is taken", one.take(), 1);
        expect.same("its end", one.run(1), 0);
        expect.badArgument("none are not", () -> new PredicateMachine().take());
    }

    private static Code prepared() {
        return Code.fresh().line(Code.FRAME, 10, 3, 8).line(Code.COUNT, 2, 2).line(Code.SAME, 2, 0, 0);
    }

    private static void falseOnesDoNothing(Expect expect) {
        expect.sentence("it is done when that is true, otherwise nothing happens, and the next one follows");
        PredicateMachine without = prepared().line(Code.NOTHING).line(Code.END).taken();
        without.run(4);
        String due = State.of(without);
        for (int operation = 0; operation <= 20; operation++) {
            // Numbers that are good for each operation; 31 and cell 31 + 31 are not there.
            int c = operation == Code.FRAME ? 0 : 31;
            PredicateMachine machine = prepared().when(1, operation, 4, 3, c).line(Code.END).taken();
            expect.same("run with " + operation, machine.run(4), 5);
            String differing = State.difference(due, State.of(machine));
            expect.same("what differs behind " + operation, differing, "");
        }
    }

    private static void eachPredicateAsQ(Expect expect) {
        expect.sentence("it is done when that is true, otherwise nothing happens, and the next one follows");
        for (int q = 0; q <= 15; q++) {
            PredicateMachine never = Code.fresh().when(q, Code.SET, 1, 5).line(Code.END).ran(9);
            expect.same("Q " + q + " at first", never.register(1), q == 0 ? 5 : 0);
            int written = q == 0 ? 1 : q == 15 ? 14 : q;
            int operation = q == 15 ? Code.LESS : Code.SAME;
            PredicateMachine machine = Code.fresh().line(operation, written, 0, 0)
                    .when(q, Code.SET, 1, 5).line(Code.END).ran(9);
            expect.same("Q " + q + " when true", machine.register(1), 5);
        }
    }

    private static void groups(Expect expect) {
        expect.sentence("Instructions up to a stop (and up to the end) are a GROUP.");
        Code one = Code.fresh();
        Code forty = Code.fresh();
        for (int i = 0; i < 39; i++) {
            one.open(Code.NOTHING);
            forty.line(Code.NOTHING);
        }
        expect.same("forty in one", one.line(Code.END).machine.take(), 1);
        expect.same("forty of one each", forty.line(Code.END).machine.take(), 40);
        Code two = Code.fresh().open(Code.NOTHING).line(Code.NOTHING).open(Code.NOTHING).line(Code.END);
        expect.same("two of two each", two.machine.take(), 2);
        Code split = Code.fresh().open(Code.SET, 1, 1).line(Code.NOTHING).open(Code.SET, 1, 2);
        expect.same("behind the stop a new one", split.line(Code.END).machine.take(), 2);
        Code joined = Code.fresh().open(Code.SET, 1, 1).open(Code.NOTHING).open(Code.SET, 1, 2);
        expect.same("without a stop the same", joined.line(Code.END).faultFound(), "2 at 2");
        Code end = Code.fresh().line(Code.NOTHING).open(Code.SET, 1, 1).open(Code.SET, 1, 1);
        expect.same("up to the end without a stop", end.faultFound(), "2 at 2");
    }

    private static void nothing(Expect expect) {
        expect.sentence("0 NOTHING.");
        PredicateMachine machine = prepared().line(Code.BRANCH, 4)
                .line(Code.NOTHING, Integer.MIN_VALUE, Integer.MAX_VALUE, 99).line(Code.BRANCH, 4).taken();
        machine.run(4);
        String before = State.of(machine);
        expect.same("it is done", machine.run(2), 5);
        expect.same("what differs", State.difference(before, State.of(machine)), "");
    }

    private static void set(Expect expect) {
        expect.sentence("1 SET a b: register a becomes the number b.");
        int[] numbers = {Integer.MIN_VALUE, -1, 0, 1, 31, 32, Integer.MAX_VALUE};
        for (int number : numbers) {
            PredicateMachine machine = Code.fresh().line(Code.FRAME, 24, 0, 0).line(Code.SET, 1, 32)
                    .line(Code.ADVANCE, 7, 1).line(Code.SET, 7, number).line(Code.SET, 31, number)
                    .line(Code.END).ran(9);
            expect.same("static", machine.register(7), number);
            expect.same("its NAT", machine.nat(7), false);
            expect.same("stacked", machine.register(31), number);
        }
    }

    private static void calculated(Expect expect, int operation, long r, long s, long due) {
        PredicateMachine machine = Code.fresh().line(operation, 3, 1, 2).line(Code.END).taken();
        machine.set(1, r);
        machine.set(2, s);
        machine.run(2);
        expect.same("operation " + operation + " of " + r + ", " + s, machine.register(3), due);
    }

    private static void calculating(Expect expect) {
        expect.sentence("register a becomes r + s, r - s, r * s, r & s (longs), with NAT when r or s has it.");
        calculated(expect, Code.ADD, HIGH, 0, HIGH);
        calculated(expect, Code.ADD, HIGH, 1, LOW);
        calculated(expect, Code.ADD, LOW, -1, HIGH);
        calculated(expect, Code.ADD, LOW, LOW, 0);
        calculated(expect, Code.ADD, Integer.MAX_VALUE, 1, 1L << 31);
        calculated(expect, Code.SUBTRACT, LOW, 0, LOW);
        calculated(expect, Code.SUBTRACT, LOW, 1, HIGH);
        calculated(expect, Code.SUBTRACT, HIGH, -1, LOW);
        calculated(expect, Code.SUBTRACT, 0, LOW, LOW);
        calculated(expect, Code.SUBTRACT, 3, 5, -2);
        calculated(expect, Code.MULTIPLY, LOW, -1, LOW);
        calculated(expect, Code.MULTIPLY, 1L << 32, 1L << 31, LOW);
        calculated(expect, Code.MULTIPLY, 1L << 32, 1L << 32, 0);
        calculated(expect, Code.MULTIPLY, HIGH, 2, -2);
        calculated(expect, Code.MULTIPLY, HIGH, 0, 0);
        calculated(expect, Code.AND, LOW, -1, LOW);
        calculated(expect, Code.AND, LOW, HIGH, 0);
        calculated(expect, Code.AND, (1L << 40) + 6, (1L << 40) + 3, (1L << 40) + 2);
    }

    // Registers 2 and 3 have NAT (with the value 32 and 0), 1 and 0 have none.
    private static Code withNats() {
        return Code.fresh().line(Code.SET, 1, 32).line(Code.ADVANCE, 3, 1).line(Code.ADD, 2, 3, 1);
    }

    private static void calculatingWithNat(Expect expect) {
        expect.sentence("register a becomes r + s, r - s, r * s, r & s (longs), with NAT when r or s has it.");
        for (int operation = Code.ADD; operation <= Code.AND; operation++) {
            for (int r = 0; r <= 3; r++) {
                for (int s = 0; s <= 3; s++) {
                    PredicateMachine machine = withNats().line(operation, 4, r, s).line(Code.END).ran(9);
                    expect.same(operation + " " + r + " " + s, machine.nat(4), r >= 2 || s >= 2);
                }
            }
            PredicateMachine machine = withNats().line(operation, 2, 1, 1).line(Code.END).ran(9);
            expect.same("NAT goes with a value without", machine.nat(2), false);
        }
    }

    private static void compared(Expect expect, int operation, long r, long s, boolean due) {
        for (int first = 1; first <= 14; first++) {
            PredicateMachine machine = Code.fresh().line(operation, first, 1, 2).line(Code.END).taken();
            machine.set(1, r);
            machine.set(2, s);
            machine.run(2);
            String what = "operation " + operation + " of " + r + ", " + s;
            expect.same(what + " in " + first, machine.predicate(first), due);
            expect.same(what + " behind " + first, machine.predicate(first + 1), !due);
        }
    }

    private static void comparing(Expect expect) {
        expect.sentence("predicate a becomes whether r is less than s, the same as s, and predicate a + 1 the opposite");
        long[] rising = {LOW, LOW + 1, Integer.MIN_VALUE, -1, 0, 1, 1L << 31, 1L << 32, HIGH - 1, HIGH};
        for (int i = 0; i < rising.length; i++) {
            for (int j = Math.max(0, i - 1); j <= Math.min(rising.length - 1, i + 1); j++) {
                compared(expect, Code.LESS, rising[i], rising[j], i < j);
                compared(expect, Code.SAME, rising[i], rising[j], i == j);
            }
        }
        compared(expect, Code.LESS, LOW, HIGH, true);
        compared(expect, Code.LESS, HIGH, LOW, false);
        compared(expect, Code.SAME, LOW, HIGH, false);
    }

    private static void comparingWithNat(Expect expect) {
        expect.sentence("both false when r or s has NAT.");
        for (int operation = Code.LESS; operation <= Code.SAME; operation++) {
            for (int r = 0; r <= 3; r++) {
                for (int s = 0; s <= 3; s++) {
                    // One of the two is true before.
                    PredicateMachine machine = withNats().line(r % 2 == 0 ? Code.SAME : Code.LESS, 7, 0, 0)
                            .line(operation, 7, r, s).line(Code.END).ran(9);
                    boolean known = r < 2 && s < 2;
                    boolean holds = operation == Code.LESS ? r == 0 && s == 1 : r == s;
                    String what = operation + " " + r + " " + s;
                    expect.same(what, machine.predicate(7), known && holds);
                    expect.same(what + " behind", machine.predicate(8), known && !holds);
                }
            }
        }
    }

    // Every cell holds 100 + its number, without NAT; register 1 is the address.
    private static PredicateMachine atAddress(Code code, long address) {
        PredicateMachine machine = code.line(Code.END).taken();
        for (int cell = 0; cell < 32; cell++) {
            machine.poke(cell, 100 + cell);
        }
        machine.set(1, address);
        return machine;
    }

    private static void loading(Expect expect) {
        expect.sentence("8 LOAD a b: register a becomes the memory cell r.");
        for (int cell = 0; cell <= 31; cell++) {
            PredicateMachine machine = atAddress(Code.fresh().line(Code.LOAD, 2, 1), cell);
            expect.same("cell " + cell, machine.run(2), 0);
            expect.same("its value", machine.register(2), 100 + cell);
        }
        for (long address : NO_CELLS) {
            PredicateMachine machine = atAddress(Code.fresh().line(Code.LOAD, 2, 1), address);
            expect.same("cell " + address, machine.run(2), 2);
            expect.same("nothing is loaded", machine.register(2), 0);
        }
        PredicateMachine machine = withNats().line(Code.KEEP, 0, 2).line(Code.LOAD, 3, 0).line(Code.END).ran(9);
        expect.same("a cell with NAT", machine.register(3), 32);
        expect.same("without the NAT, which BRING alone brings", machine.nat(3), false);
    }

    private static void advancing(Expect expect) {
        expect.sentence("9 ADVANCE a b: likewise, but when there is no such cell, or r has NAT, it becomes 0 with NAT.");
        for (int cell = 0; cell <= 31; cell++) {
            PredicateMachine machine = atAddress(Code.fresh().line(Code.ADVANCE, 2, 1), cell);
            expect.same("cell " + cell, machine.run(2), 0);
            expect.same("its value", machine.register(2), 100 + cell);
            expect.same("its NAT", machine.nat(2), false);
        }
        for (long address : NO_CELLS) {
            PredicateMachine machine = atAddress(Code.fresh().line(Code.ADVANCE, 2, 1), address);
            machine.set(2, 5);
            expect.same("cell " + address, machine.run(2), 0);
            expect.same("no value", machine.register(2), 0);
            expect.same("no thing", machine.nat(2), true);
        }
        // Register 3 has NAT and the value 0, which would be a cell.
        PredicateMachine machine = withNats().line(Code.ADVANCE, 4, 3).line(Code.END).taken();
        machine.poke(0, 9);
        machine.set(4, 5);
        expect.same("NAT as the address", machine.run(9), 0);
        expect.same("no value", machine.register(4), 0);
        expect.same("no thing", machine.nat(4), true);
    }

    private static void storing(Expect expect) {
        expect.sentence("10 STORE a b: memory cell (register a) becomes r.");
        for (int operation = Code.STORE; operation <= Code.KEEP; operation++) {
            for (int cell = 0; cell <= 31; cell++) {
                PredicateMachine machine = atAddress(Code.fresh().line(operation, 1, 2), cell);
                machine.set(2, LOW);
                expect.same("cell " + cell, machine.run(2), 0);
                for (int other = 0; other <= 31; other++) {
                    long due = other == cell ? LOW : 100 + other;
                    expect.same("cell " + other, machine.memory(other), due);
                }
            }
            for (long address : NO_CELLS) {
                PredicateMachine machine = atAddress(Code.fresh().line(operation, 1, 2), address);
                expect.same("cell " + address, machine.run(2), 2);
                for (int other = 0; other <= 31; other++) {
                    expect.same("cell " + other, machine.memory(other), 100 + other);
                }
            }
        }
        PredicateMachine machine = withNats().line(Code.KEEP, 0, 2).line(Code.STORE, 0, 1)
                .line(Code.BRING, 4, 0).line(Code.END).ran(9);
        expect.same("over a cell with NAT", machine.register(4), 32);
        expect.same("its NAT is gone", machine.nat(4), false);
    }

    private static void keeping(Expect expect) {
        expect.sentence("11 KEEP a b: as STORE, but r may have NAT, which is kept with the cell.");
        PredicateMachine stored = withNats().line(Code.STORE, 0, 2).line(Code.END).taken();
        expect.same("STORE of NAT", stored.run(9), 3);
        PredicateMachine machine = withNats().line(Code.SET, 4, 31).line(Code.KEEP, 4, 2)
                .line(Code.BRING, 5, 4).line(Code.KEEP, 4, 1).line(Code.BRING, 6, 4).line(Code.END).taken();
        expect.same("KEEP of NAT", machine.run(5), 5);
        expect.same("the cell", machine.memory(31), 32);
        expect.same("it ends", machine.run(9), 0);
        expect.same("NAT was kept", machine.nat(5), true);
        expect.same("no NAT was kept", machine.nat(6), false);
    }

    private static void bringing(Expect expect) {
        expect.sentence("12 BRING a b: as LOAD, with the NAT of the cell.");
        for (int cell = 0; cell <= 31; cell++) {
            Code code = Code.fresh().line(Code.SET, 2, 32).line(Code.ADVANCE, 3, 2)
                    .line(Code.KEEP, 1, 3).line(Code.BRING, 4, 1).line(Code.BRING, 5, 6);
            PredicateMachine machine = atAddress(code, cell);
            machine.set(6, 31 - cell);
            expect.same("it ends", machine.run(9), 0);
            expect.same("NAT of cell " + cell, machine.nat(4), true);
            expect.same("its value", machine.register(4), 0);
            expect.same("NAT of the cell at the other end", machine.nat(5), false);
            expect.same("its value", machine.register(5), 100 + 31 - cell);
        }
        for (long address : NO_CELLS) {
            PredicateMachine machine = atAddress(Code.fresh().line(Code.BRING, 2, 1), address);
            expect.same("cell " + address, machine.run(2), 2);
            expect.same("nothing is brought", machine.nat(2), false);
        }
    }

    private static void checking(Expect expect) {
        expect.sentence("13 CHECK a b: when register a has NAT, it goes on at b.");
        for (int target = 0; target <= 5; target++) {
            PredicateMachine with = withNats().line(Code.CHECK, 2, target).line(Code.END).line(Code.END).taken();
            with.run(4);
            expect.same("with NAT", with.look(0), target);
            PredicateMachine without = withNats().line(Code.CHECK, 1, target).line(Code.END).line(Code.END).taken();
            without.run(4);
            expect.same("without NAT", without.look(0), 4);
            expect.same("the value does not count", without.register(1), 32);
        }
        PredicateMachine zero = withNats().line(Code.CHECK, 3, 5).line(Code.END).line(Code.END).ran(9);
        expect.same("0 with NAT", zero.look(0), 5);
    }

    private static void branching(Expect expect) {
        expect.sentence("14 BRANCH a: goes on at a.");
        for (int target = 0; target <= 39; target++) {
            Code code = Code.fresh();
            for (int i = 0; i < 39; i++) {
                code.line(i == 20 ? Code.BRANCH : Code.NOTHING, target);
            }
            PredicateMachine machine = code.line(Code.END).taken();
            machine.run(21);
            expect.same("at the target", machine.look(0), target);
        }
        PredicateMachine itself = Code.fresh().line(Code.BRANCH, 0).taken();
        expect.same("at itself, for ever", itself.run(500), 5);
        expect.same("there still", itself.look(0), 0);
    }
}
