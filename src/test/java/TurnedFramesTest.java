/** Frames and predicates at a B that is not 0: where what the terms say of them meets the rotation. */
final class TurnedFramesTest {
    public static void main(String[] args) {
        Expect expect = new Expect("TurnedFramesTest");
        comparingAtEachBase(expect);
        placesOfCompared(expect);
        doneAtEachBase(expect);
        turnsWithQ(expect);
        turnsInTheCalled(expect);
        framesAtEachBase(expect);
        whatTurnedFramesGain(expect);
        outsOfTurnedFrames(expect);
        spillsTurnedFrames(expect);
        spillsFromOnePlaceTwice(expect);
        expect.end();
    }

    // B falls from 0 to what is asked for, with end counts alone, so that all predicates stay false.
    private static Code turned(Code code, int at, int base) {
        return code.line(Code.COUNT, 0, (16 - base) % 16).line(Code.TURN, at + 1);
    }

    private static int seenByTurning(int base) {
        return 1 + Math.max(1, (16 - base) % 16);
    }

    private static final String COMPARING = "predicate a becomes whether r is less than s, the same as s, "
            + "and predicate a + 1 the opposite";

    private static void comparingAtEachBase(Expect expect) {
        expect.sentence(COMPARING);
        for (int base = 0; base <= 15; base++) {
            for (int a = 1; a <= 14; a++) {
                PredicateMachine machine = turned(Code.fresh(), 0, base).line(Code.SAME, a, 0, 0)
                        .line(Code.LESS, a, 0, 0).line(Code.END).taken();
                machine.run(seenByTurning(base) + 1);
                expect.same("B", machine.look(4), base);
                for (int p = 1; p <= 15; p++) {
                    expect.same("B " + base + ", SAME " + a + ": " + p, machine.predicate(p), p == a);
                }
                machine.run(1);
                for (int p = 1; p <= 15; p++) {
                    expect.same("B " + base + ", LESS " + a + ": " + p, machine.predicate(p), p == a + 1);
                }
            }
        }
    }

    // A CALL makes B 0, and so shows at which of the eight places it was written.
    private static void placesOfCompared(Expect expect) {
        expect.sentence("predicate 8 + k is the one at (k + B) modulo 8 of the eight.");
        for (int base = 0; base <= 15; base++) {
            for (int a = 1; a <= 14; a++) {
                PredicateMachine machine = turned(Code.fresh(), 0, base).line(Code.LESS, a, 0, 0)
                        .line(Code.CALL, 4).line(Code.END).taken();
                machine.run(seenByTurning(base) + 2);
                int due = a + 1 < 8 ? a + 1 : 8 + (a + 1 - 8 + base) % 8;
                for (int p = 1; p <= 15; p++) {
                    expect.same("B " + base + ", LESS " + a + ", called: " + p, machine.predicate(p), p == due);
                }
            }
        }
    }

    private static void doneAtEachBase(Expect expect) {
        expect.sentence("it is done when that is true, otherwise nothing happens, and the next one follows");
        for (int base = 0; base <= 15; base++) {
            for (int written = 1; written <= 14; written++) {
                for (int q = Math.max(1, written - 2); q <= Math.min(15, written + 2); q++) {
                    PredicateMachine machine = turned(Code.fresh(), 0, base).line(Code.SAME, written, 0, 0)
                            .when(q, Code.SET, 1, 5).line(Code.END).ran(40);
                    String what = "B " + base + ", true is " + written + ", Q " + q;
                    expect.same(what, machine.register(1), q == written ? 5 : 0);
                }
            }
        }
    }

    // Q is read before the TURN turns: the one that was 8 is then 9.
    private static void turnsWithQ(Expect expect) {
        expect.sentence("it is done when that is true, otherwise nothing happens, and the next one follows");
        for (int q = 8; q <= 14; q++) {
            PredicateMachine machine = Code.fresh().line(Code.COUNT, 3, 0).line(Code.SAME, q, 0, 0)
                    .when(q, Code.TURN, 2).line(Code.END).taken();
            machine.run(3);
            expect.same("turned once with Q " + q, machine.look(4), 15);
            expect.same("at itself", machine.look(0), 2);
            expect.same("the one that was Q", machine.predicate(q + 1), true);
            machine.run(1);
            // 8 is true by the TURN before; the others are false now.
            expect.same("the next with Q " + q, machine.look(4), q == 8 ? 14 : 15);
            expect.same("where it goes on", machine.look(0), q == 8 ? 2 : 3);
            expect.same("the loop count", machine.look(6), q == 8 ? 1 : 2);
        }
    }

    private static void turnsInTheCalled(Expect expect) {
        expect.sentence("predicate 8 becomes (after that) whether the loop count was above 0");
        for (int base = 0; base <= 15; base++) {
            PredicateMachine machine = turned(Code.fresh(), 0, base).line(Code.COUNT, 1, 0).line(Code.CALL, 5)
                    .line(Code.END).line(Code.TURN, 6).line(Code.RETURN).taken();
            machine.run(seenByTurning(base) + 3);
            expect.same("B of the called", machine.look(4), 15);
            expect.same("predicate 8 of the called", machine.predicate(8), true);
            machine.run(1);
            expect.same("B of the caller", machine.look(4), base);
            // It stands at the last of the eight places, which is 8 + k with (k + B) modulo 8 = 7.
            int due = 8 + Math.floorMod(7 - base, 8);
            for (int p = 8; p <= 15; p++) {
                expect.same("B " + base + ", come back: " + p, machine.predicate(p), p == due);
            }
        }
    }

    // Where register 8 + k of such a frame is.
    private static int place(int k, int turns, int base) {
        return k < turns ? (k + base) % turns : k;
    }

    // A frame whose place k holds 50 + k: it is written before anything turns. Then B is as given.
    private static Code holding(int size, int outs, int turns, int base) {
        Code code = Code.fresh().line(Code.FRAME, size, outs, turns);
        for (int k = 0; k < size; k++) {
            code.line(Code.SET, 8 + k, 50 + k);
        }
        return turned(code, size + 1, base);
    }

    private static int seenByHolding(int size, int base) {
        return 1 + size + seenByTurning(base);
    }

    private static void framesAtEachBase(Expect expect) {
        expect.sentence("17 FRAME a b c: the current frame has size a, outs b and turns c from now on");
        for (int base = 0; base <= 15; base++) {
            for (int before = 0; before <= 16; before += 8) {
                for (int turns = 0; turns <= 16; turns += 8) {
                    PredicateMachine machine = holding(24, 0, before, base).line(Code.FRAME, 24, 3, turns)
                            .line(Code.END).taken();
                    expect.same("it ends", machine.run(60), 0);
                    String what = "B " + base + ", turns " + before + ", then " + turns;
                    expect.same(what + ": B", machine.look(4), base);
                    for (int k = 0; k < 24; k++) {
                        long due = 50 + place(k, turns, base);
                        expect.same(what + ": " + (8 + k), machine.register(8 + k), due);
                    }
                }
            }
        }
    }

    // What it had are its places, whatever registers the rotation shows there.
    private static void whatTurnedFramesGain(Expect expect) {
        expect.sentence("(those beyond what it had become 0, without NAT)");
        for (int base = 0; base <= 15; base += 3) {
            for (int kept = 0; kept <= 24; kept++) {
                PredicateMachine machine = holding(24, 0, 16, base).line(Code.FRAME, kept, 0, 0)
                        .line(Code.FRAME, 24, 0, 16).line(Code.END).ran(60);
                for (int k = 0; k < 24; k++) {
                    int place = place(k, 16, base);
                    String what = "B " + base + ", kept " + kept + ": " + (8 + k);
                    expect.same(what, machine.register(8 + k), place < kept ? 50 + place : 0);
                }
            }
        }
        PredicateMachine nats = Code.fresh().line(Code.SET, 1, 32).line(Code.FRAME, 16, 0, 16).line(Code.COUNT, 3, 0)
                .line(Code.TURN, 3).line(Code.ADVANCE, 8, 1).line(Code.ADVANCE, 12, 1).line(Code.FRAME, 13, 0, 8)
                .line(Code.FRAME, 16, 0, 16).line(Code.END).ran(60);
        // With B 13, register 8 is at place 13, which went, and register 12 at place 1, which stayed.
        for (int k = 0; k < 16; k++) {
            expect.same("nat " + (8 + k), nats.nat(8 + k), k == 4);
        }
    }

    private static void outsOfTurnedFrames(Expect expect) {
        expect.sentence("Stacked registers of the frame that comes back are what they were, the outs what the called "
                + "one has left in them (0 where its frame had become too small for them).");
        for (int base = 0; base <= 15; base += 3) {
            for (int size = 0; size <= 7; size++) {
                // 16 places, of which the last 5 are outs; the called one makes its last register 99.
                Code code = holding(16, 5, 16, base).line(Code.CALL, 21).line(Code.END).line(Code.FRAME, size, 0, 0);
                code.line(size > 0 ? Code.SET : Code.NOTHING, 7 + size, 99).line(Code.RETURN);
                PredicateMachine machine = code.taken();
                expect.same("it ends", machine.run(80), 0);
                for (int k = 0; k < 16; k++) {
                    int place = place(k, 16, base);
                    int out = place - 11;
                    long due = out < 0 ? 50 + place : out >= size ? 0 : out == size - 1 ? 99 : 50 + place;
                    String what = "B " + base + ", called " + size + ": " + (8 + k);
                    expect.same(what, machine.register(8 + k), due);
                }
            }
        }
    }

    private static void spillsTurnedFrames(Expect expect) {
        expect.sentence("the lowest ones that are held are SPILLED, each to the BACKING store (with its NAT), "
                + "until there are 24. When a RETURN brings a frame of which some were spilled, these are FILLED");
        for (int base = 0; base <= 15; base++) {
            for (int size = 0; size <= 24; size += 6) {
                PredicateMachine machine = holding(18, 0, 16, base).line(Code.CALL, 23).line(Code.END)
                        .line(Code.FRAME, size, 0, 0).line(Code.RETURN).taken();
                machine.run(seenByHolding(18, base) + 2);
                int spilled = Math.max(0, size - 6);
                String what = "B " + base + ", called " + size;
                expect.same(what + ": spilled", machine.look(8), spilled);
                for (int k = 0; k < 19; k++) {
                    expect.same(what + ": backing " + k, machine.backing(k), k < spilled ? 50 + k : 0);
                }
                expect.same(what + ": it ends", machine.run(9), 0);
                expect.same(what + ": filled", machine.look(9), spilled);
                for (int k = 0; k < 18; k++) {
                    expect.same(what + ": " + (8 + k), machine.register(8 + k), 50 + place(k, 16, base));
                }
            }
        }
    }

    // Two frames that are called one after the other stand at the same places; each is spilled from there.
    private static void spillsFromOnePlaceTwice(Expect expect) {
        expect.sentence("What was spilled last from place k of the row (0 when nothing was).");
        PredicateMachine machine = Code.fresh().line(Code.FRAME, 2, 0, 0).line(Code.SET, 1, 11).line(Code.CALL, 6)
                .line(Code.SET, 1, 22).line(Code.CALL, 6).line(Code.END)
                .line(Code.FRAME, 3, 0, 0).line(Code.ADD, 8, 1, 0).line(Code.CALL, 10).line(Code.RETURN)
                .line(Code.FRAME, 24, 0, 0).line(Code.RETURN).taken();
        machine.run(7);
        expect.same("from the first", machine.backing(2), 11);
        expect.same("spilled by the first", machine.look(8), 5);
        machine.run(2);
        expect.same("the first has come back, and gone", machine.backing(2), 11);
        expect.same("filled for the two", machine.look(9), 5);
        machine.run(6);
        expect.same("from the second", machine.backing(2), 22);
        expect.same("spilled by both", machine.look(8), 10);
        expect.same("its other places", machine.backing(3) + machine.backing(4), 0);
    }
}
