/** Every operation with every register, in a called frame, at several B: what the terms say of r, s and a. */
final class TurnedRegistersTest {
    private static final int[] BASES = {0, 1, 7, 8, 13};
    // Where the operation that is tested stands: behind so many, of which one is a TURN at itself.
    private static final int AT = 29;

    private static final String NAMES = "r, s are the registers b, c";

    public static void main(String[] args) {
        Expect expect = new Expect("TurnedRegistersTest");
        for (int base : BASES) {
            setting(expect, base);
            calculating(expect, base);
            comparing(expect, base);
            loading(expect, base);
            storing(expect, base);
            checking(expect, base);
            carryingNat(expect, base);
            faultingOnNat(expect, base);
        }
        natsTurn(expect, 8);
        natsTurn(expect, 16);
        ownAddress(expect);
        expect.end();
    }

    // Every register n holds n, but for 7, which holds 32 (no cell); every cell n holds 100 + n. The
    // frame is a called one behind 5 others; 16 of its 24 registers turn, and B is as given.
    private static Code prepared(int base) {
        Code code = Code.fresh().line(Code.FRAME, 5, 0, 0).line(Code.CALL, 2).line(Code.FRAME, 24, 0, 16);
        code.line(Code.COUNT, 0, (16 - base) % 16).line(Code.TURN, 4);
        for (int register = 8; register <= 31; register++) {
            code.line(Code.SET, register, register);
        }
        return code;
    }

    private static PredicateMachine atTheOperation(Expect expect, Code code, int base) {
        PredicateMachine machine = code.taken();
        for (int register = 1; register <= 7; register++) {
            machine.set(register, value(register));
        }
        for (int cell = 0; cell <= 31; cell++) {
            machine.poke(cell, 100 + cell);
        }
        machine.run(AT + Math.max(0, (16 - base) % 16 - 1));
        expect.same("at the operation", machine.look(0), AT);
        expect.same("B", machine.look(4), base);
        return machine;
    }

    private static long value(int register) {
        return register == 7 ? 32 : register;
    }

    private static PredicateMachine done(Expect expect, int base, int operation, int... numbers) {
        Code code = prepared(base).line(operation, numbers).line(Code.END);
        PredicateMachine machine = atTheOperation(expect, code, base);
        expect.same(operation + " is done", machine.run(1), 5);
        return machine;
    }

    // All registers are as before, but for one, which is as said, without NAT.
    private static void registersAre(Expect expect, String what, PredicateMachine machine, int changed, long due) {
        for (int register = 0; register <= 31; register++) {
            long value = register == changed ? due : value(register);
            expect.same(what + ": register " + register, machine.register(register), value);
            expect.same(what + ": nat " + register, machine.nat(register), false);
        }
    }

    private static void setting(Expect expect, int base) {
        expect.sentence("1 SET a b: register a becomes the number b.");
        for (int a = 1; a <= 31; a++) {
            PredicateMachine machine = done(expect, base, Code.SET, a, -77);
            registersAre(expect, "B " + base + ", SET " + a, machine, a, -77);
        }
    }

    private static long calculated(int operation, long r, long s) {
        return operation == Code.ADD ? r + s : operation == Code.SUBTRACT ? r - s
                : operation == Code.MULTIPLY ? r * s : r & s;
    }

    private static void calculating(Expect expect, int base) {
        expect.sentence(NAMES);
        for (int operation = Code.ADD; operation <= Code.AND; operation++) {
            for (int named = 0; named <= 31; named++) {
                int[][] all = {{Math.max(1, named), 3, 30}, {1, named, 31}, {8, 29, named}, {31, named, named}};
                for (int[] abc : all) {
                    PredicateMachine machine = done(expect, base, operation, abc);
                    long due = calculated(operation, value(abc[1]), value(abc[2]));
                    String what = "B " + base + ", " + operation + " " + abc[0] + " " + abc[1] + " " + abc[2];
                    registersAre(expect, what, machine, abc[0], due);
                }
            }
        }
    }

    private static void comparing(Expect expect, int base) {
        expect.sentence(NAMES);
        for (int operation = Code.LESS; operation <= Code.SAME; operation++) {
            for (int named = 0; named <= 31; named++) {
                int[][] pairs = {{named, 20}, {20, named}, {named, named}};
                for (int[] pair : pairs) {
                    PredicateMachine machine = done(expect, base, operation, 1, pair[0], pair[1]);
                    long r = value(pair[0]);
                    long s = value(pair[1]);
                    boolean due = operation == Code.LESS ? r < s : r == s;
                    String what = "B " + base + ", " + operation + " of " + pair[0] + ", " + pair[1];
                    expect.same(what, machine.predicate(1), due);
                    expect.same(what + ", the opposite", machine.predicate(2), !due);
                }
            }
        }
    }

    private static void loading(Expect expect, int base) {
        expect.sentence("8 LOAD a b: register a becomes the memory cell r.");
        int[] operations = {Code.LOAD, Code.ADVANCE, Code.BRING};
        for (int operation : operations) {
            for (int named = 0; named <= 31; named++) {
                if (named != 7) {
                    PredicateMachine from = done(expect, base, operation, 1, named);
                    registersAre(expect, "B " + base + ", " + operation + " 1 " + named, from, 1, 100 + named);
                }
                int a = Math.max(1, named);
                PredicateMachine to = done(expect, base, operation, a, 30);
                registersAre(expect, "B " + base + ", " + operation + " " + a + " 30", to, a, 130);
            }
        }
    }

    private static void storing(Expect expect, int base) {
        expect.sentence("10 STORE a b: memory cell (register a) becomes r.");
        for (int operation = Code.STORE; operation <= Code.KEEP; operation++) {
            for (int named = 0; named <= 31; named++) {
                int[][] pairs = {{named == 7 ? 6 : named, 30}, {29, named}};
                for (int[] pair : pairs) {
                    PredicateMachine machine = done(expect, base, operation, pair);
                    for (int cell = 0; cell <= 31; cell++) {
                        long due = cell == pair[0] ? value(pair[1]) : 100 + cell;
                        String what = "B " + base + ", " + operation + " " + pair[0] + " " + pair[1];
                        expect.same(what + ": cell " + cell, machine.memory(cell), due);
                    }
                }
            }
        }
    }

    // The register gets NAT first: it becomes what is in the cell 32, which there is not.
    private static PredicateMachine behindNat(Expect expect, int base, int named, int operation, int... numbers) {
        Code code = prepared(base).line(Code.ADVANCE, named, 7).line(operation, numbers);
        PredicateMachine machine = atTheOperation(expect, code.line(Code.NOTHING).line(Code.END), base);
        expect.same("ADVANCE", machine.run(1), 5);
        return machine;
    }

    private static void checking(Expect expect, int base) {
        expect.sentence("13 CHECK a b: when register a has NAT, it goes on at b.");
        for (int named = 1; named <= 31; named++) {
            for (int a = 0; a <= 31; a++) {
                PredicateMachine machine = behindNat(expect, base, named, Code.CHECK, a, 3);
                machine.run(1);
                String what = "B " + base + ", NAT in " + named + ", CHECK " + a;
                expect.same(what, machine.look(0), a == named ? 3 : AT + 2);
            }
        }
    }

    private static void carryingNat(Expect expect, int base) {
        expect.sentence("with NAT when r or s has it");
        for (int operation = Code.ADD; operation <= Code.AND; operation++) {
            for (int named = 2; named <= 31; named++) {
                int[][] all = {{1, named, 0}, {1, 0, named}, {1, 0, 0}};
                for (int[] abc : all) {
                    PredicateMachine machine = behindNat(expect, base, named, operation, abc);
                    machine.run(1);
                    String what = "B " + base + ", NAT in " + named + ", " + operation + " " + abc[1] + " " + abc[2];
                    expect.same(what, machine.nat(1), abc[1] + abc[2] > 0);
                    expect.same(what + ", its own", machine.nat(named), true);
                }
            }
        }
        expect.sentence("both false when r or s has NAT.");
        for (int named = 2; named <= 31; named++) {
            PredicateMachine machine = behindNat(expect, base, named, Code.SAME, 3, named, named);
            machine.run(1);
            expect.same("B " + base + ", NAT in " + named, machine.predicate(3) || machine.predicate(4), false);
        }
    }

    private static void faultingOnNat(Expect expect, int base) {
        expect.sentence("3 NAT of an address, of r in STORE (looked at before 2)");
        for (int named = 2; named <= 31; named++) {
            String what = "B " + base + ", NAT in " + named;
            expect.same(what + ", LOAD", behindNat(expect, base, named, Code.LOAD, 1, named).run(1), 3);
            expect.same(what + ", BRING", behindNat(expect, base, named, Code.BRING, 1, named).run(1), 3);
            expect.same(what + ", STORE a", behindNat(expect, base, named, Code.STORE, named, 0).run(1), 3);
            expect.same(what + ", STORE b", behindNat(expect, base, named, Code.STORE, 0, named).run(1), 3);
            expect.same(what + ", KEEP a", behindNat(expect, base, named, Code.KEEP, named, 0).run(1), 3);
            expect.same(what + ", KEEP b", behindNat(expect, base, named, Code.KEEP, 0, named).run(1), 5);
            PredicateMachine machine = behindNat(expect, base, named, Code.ADVANCE, 1, named);
            expect.same(what + ", ADVANCE", machine.run(1), 5);
            expect.same(what + ", ADVANCE's NAT", machine.nat(1), true);
        }
    }

    // The NAT bit of a register turns with its value.
    private static void natsTurn(Expect expect, int turns) {
        expect.sentence("register 8 + k, when k is below TURNS, is at (k + B) modulo TURNS of the frame");
        for (int k = 0; k < 24; k++) {
            PredicateMachine machine = Code.fresh().line(Code.SET, 1, 32).line(Code.FRAME, 24, 0, turns)
                    .line(Code.COUNT, 17, 0).line(Code.ADVANCE, 8 + k, 1).line(Code.TURN, 4).line(Code.END).taken();
            machine.run(4);
            for (int turn = 0; turn <= 17; turn++) {
                int due = k < turns ? (k + turn) % turns : k;
                for (int other = Math.max(0, due - 2); other <= Math.min(23, due + 2); other++) {
                    String what = turns + " turn, NAT in " + (8 + k) + ", turned " + turn + ": " + (8 + other);
                    expect.same(what, machine.nat(8 + other), other == due);
                }
                machine.run(1);
            }
        }
    }

    // r is read before register a, and the address before the cell, is written.
    private static void ownAddress(Expect expect) {
        expect.sentence("8 LOAD a b: register a becomes the memory cell r.");
        int[] operations = {Code.LOAD, Code.ADVANCE, Code.BRING};
        for (int operation : operations) {
            PredicateMachine machine = done(expect, 13, operation, 9, 9);
            registersAre(expect, operation + " 9 9", machine, 9, 109);
        }
        expect.sentence("10 STORE a b: memory cell (register a) becomes r.");
        for (int operation = Code.STORE; operation <= Code.KEEP; operation++) {
            PredicateMachine machine = done(expect, 13, operation, 9, 9);
            expect.same(operation + " 9 9", machine.memory(9), 9);
            registersAre(expect, operation + " 9 9", machine, 0, 0);
        }
    }
}
