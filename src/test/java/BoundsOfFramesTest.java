/** The bounds that the document's terms name for CALL, RETURN and FRAME. */
final class BoundsOfFramesTest {
    public static void main(String[] args) {
        Expect expect = new Expect("BoundsOfFramesTest");
        calledFrames(expect);
        callTargets(expect);
        returnsBehindTheCall(expect);
        returnsFromForty(expect);
        framesFromNowOn(expect);
        whatFramesGain(expect);
        whatIsKeptWithFrames(expect);
        staticPredicatesStay(expect);
        rotatingPredicatesStay(expect);
        ownRegistersComeBack(expect);
        outsComeBack(expect);
        outsWithNatComeBack(expect);
        expect.end();
    }

    // A frame whose registers hold 50, 51, .. and that calls what stands behind the END.
    private static Code calling(int size, int outs, int turns) {
        Code code = Code.fresh().line(Code.FRAME, size, outs, turns);
        for (int k = 0; k < size; k++) {
            code.line(Code.SET, 8 + k, 50 + k);
        }
        return code.line(Code.CALL, size + 3).line(Code.END);
    }

    private static void calledFrames(Expect expect) {
        expect.sentence("15 CALL a: a new frame, of the OUTS of this one, with no outs and no turns, "
                + "in which they are the first ones; goes on at a.");
        int[][] frames = {
            {0, 0, 0}, {1, 0, 0}, {1, 1, 0}, {8, 8, 8}, {16, 16, 16}, {24, 0, 16}, {24, 1, 8}, {24, 23, 0}, {24, 24, 16}
        };
        for (int[] frame : frames) {
            int size = frame[0];
            int outs = frame[1];
            PredicateMachine machine = calling(size, outs, frame[2]).line(Code.RETURN).taken();
            machine.run(size + 2);
            expect.same("where it goes on", machine.look(0), size + 3);
            expect.same("size", machine.look(1), outs);
            expect.same("outs", machine.look(2), 0);
            expect.same("turns", machine.look(3), 0);
            expect.same("called", machine.look(5), 1);
            expect.same("where it begins", machine.look(10), size - outs);
            for (int k = 0; k < outs; k++) {
                expect.same("at " + k, machine.register(8 + k), 50 + size - outs + k);
            }
            int beyond = 8 + outs;
            expect.badArgument("beyond " + outs, () -> machine.register(beyond));
            expect.same("nothing is spilled by it", machine.look(8), 0);
        }
    }

    private static void callTargets(Expect expect) {
        expect.sentence("15 CALL a: a new frame, of the OUTS of this one, with no outs and no turns, "
                + "in which they are the first ones; goes on at a.");
        for (int target = 0; target <= 39; target++) {
            Code code = Code.fresh();
            for (int i = 0; i < 39; i++) {
                code.line(i == 20 ? Code.CALL : Code.NOTHING, target);
            }
            PredicateMachine machine = code.line(Code.END).taken();
            machine.run(21);
            expect.same("at the target", machine.look(0), target);
            expect.same("called", machine.look(5), 1);
        }
    }

    private static void returnsBehindTheCall(Expect expect) {
        expect.sentence("16 RETURN: the frame from which this one was called is the current one again; "
                + "goes on behind the CALL.");
        for (int at = 2; at <= 38; at++) {
            Code code = Code.fresh().line(Code.BRANCH, 2).line(Code.RETURN);
            for (int i = 2; i < 39; i++) {
                code.line(i == at ? Code.CALL : Code.NOTHING, 1);
            }
            PredicateMachine machine = code.line(Code.END).taken();
            machine.run(at);
            expect.same("at the RETURN", machine.look(0), 1);
            expect.same("called by " + at, machine.look(5), 1);
            machine.run(1);
            expect.same("behind " + at, machine.look(0), at + 1);
            expect.same("none called", machine.look(5), 0);
        }
    }

    // Each CALL but the last is the same one; the last is called from another place.
    private static void returnsFromForty(Expect expect) {
        expect.sentence("16 RETURN: the frame from which this one was called is the current one again; "
                + "goes on behind the CALL.");
        PredicateMachine machine = Code.fresh().line(Code.SUBTRACT, 7, 7, 6).line(Code.LESS, 1, 0, 7)
                .when(1, Code.CALL, 0).line(Code.ADD, 5, 5, 6).line(Code.RETURN).taken();
        machine.set(6, 1);
        machine.set(7, 41);
        expect.same("down", machine.run(40 * 3 + 3), 5);
        expect.same("forty are called", machine.look(5), 40);
        for (int called = 39; called >= 0; called--) {
            expect.same("one RETURN", machine.run(2), 5);
            expect.same("called", machine.look(5), called);
            expect.same("goes on", machine.look(0), 3);
        }
        expect.same("the last RETURN has nothing called", machine.run(2), 0);
        expect.same("how many came back", machine.register(5), 41);
    }

    private static void framesFromNowOn(Expect expect) {
        expect.sentence("17 FRAME a b c: the current frame has size a, outs b and turns c from now on");
        int[][] frames = {{24, 24, 16}, {0, 0, 0}, {16, 0, 16}, {8, 8, 8}, {24, 0, 0}, {8, 0, 0}, {16, 16, 8}, {1, 1, 0}};
        Code code = Code.fresh();
        for (int[] frame : frames) {
            code.line(Code.FRAME, frame);
        }
        PredicateMachine machine = code.line(Code.END).taken();
        for (int[] frame : frames) {
            machine.run(1);
            expect.same("size", machine.look(1), frame[0]);
            expect.same("outs", machine.look(2), frame[1]);
            expect.same("turns", machine.look(3), frame[2]);
            expect.same("B", machine.look(4), 0);
            expect.same("where it begins", machine.look(10), 0);
        }
    }

    private static void whatFramesGain(Expect expect) {
        expect.sentence("(those beyond what it had become 0, without NAT)");
        for (int kept = 0; kept <= 4; kept++) {
            for (int size = 0; size <= 6; size++) {
                Code code = Code.fresh().line(Code.SET, 1, 32).line(Code.FRAME, 4, 0, 0);
                for (int k = 0; k < 4; k++) {
                    code.line(Code.ADVANCE, 8 + k, 1).line(Code.ADD, 8 + k, 8 + k, 1);
                }
                code.line(Code.FRAME, kept, 0, 0).line(Code.FRAME, size, 0, 0).line(Code.END);
                PredicateMachine machine = code.ran(30);
                for (int k = 0; k < size; k++) {
                    String what = "4, then " + kept + ", then " + size + ": at " + k;
                    expect.same(what, machine.register(8 + k), k < kept ? 32 : 0);
                    expect.same(what + ", NAT", machine.nat(8 + k), k < kept);
                }
            }
        }
    }

    private static void whatIsKeptWithFrames(Expect expect) {
        expect.sentence("With CALL, B, the size, outs and turns are kept with the frame that is left, "
                + "and B is 0; RETURN brings them back.");
        for (int turns = 0; turns <= 16; turns++) {
            PredicateMachine machine = Code.fresh().line(Code.FRAME, 17, 3, 16).line(Code.COUNT, turns, 0)
                    .line(Code.TURN, 2).line(Code.COUNT, 20, 0).line(Code.CALL, 6).line(Code.END)
                    .line(Code.FRAME, 9, 1, 8).line(Code.TURN, 8).line(Code.RETURN).taken();
            machine.run(2 + turns + 1 + 1);
            int base = (16 - turns) % 16;
            expect.same("B before", machine.look(4), base);
            machine.run(1);
            expect.same("B in the called", machine.look(4), 0);
            machine.run(2);
            expect.same("B in the called behind a TURN", machine.look(4), 15);
            expect.same("turns in the called", machine.look(3), 8);
            machine.run(1);
            expect.same("B", machine.look(4), base);
            expect.same("size", machine.look(1), 17);
            expect.same("outs", machine.look(2), 3);
            expect.same("turns", machine.look(3), 16);
            expect.same("where it begins", machine.look(10), 0);
        }
    }

    private static void staticPredicatesStay(Expect expect) {
        expect.sentence("All predicates stay.");
        for (int p = 1; p <= 14; p++) {
            // The caller makes p true, the called one p + 1.
            PredicateMachine machine = Code.fresh().line(Code.SAME, p, 0, 0).line(Code.CALL, 3).line(Code.END)
                    .line(Code.LESS, p, 0, 0).line(Code.RETURN).taken();
            machine.run(2);
            for (int other = 1; other <= 15; other++) {
                expect.same(p + " in the called, " + other, machine.predicate(other), other == p);
            }
            machine.run(2);
            for (int other = 1; other <= 15; other++) {
                expect.same(p + " come back, " + other, machine.predicate(other), other == p + 1);
            }
        }
    }

    // The eight stay at their places; with B = 0 the one at a place has that place's number.
    private static void rotatingPredicatesStay(Expect expect) {
        expect.sentence("All predicates stay.");
        for (int turns = 0; turns <= 16; turns++) {
            for (int k = 0; k <= 7; k++) {
                int operation = k == 7 ? Code.LESS : Code.SAME;
                PredicateMachine machine = Code.fresh().line(Code.COUNT, 0, turns).line(Code.TURN, 1)
                        .line(operation, k == 7 ? 14 : 8 + k, 0, 0).line(Code.CALL, 5).line(Code.END)
                        .line(Code.RETURN).taken();
                machine.run(1 + Math.max(1, turns) + 2);
                int place = (k + (16 - turns) % 16) % 8;
                for (int other = 8; other <= 15; other++) {
                    String what = "turns " + turns + ", k " + k + ", in the called " + other;
                    expect.same(what, machine.predicate(other), other == 8 + place);
                }
                machine.run(1);
                for (int other = 8; other <= 15; other++) {
                    String what = "turns " + turns + ", k " + k + ", come back " + other;
                    expect.same(what, machine.predicate(other), other == 8 + k);
                }
            }
        }
    }

    private static final String COMING_BACK = "Stacked registers of the frame that comes back are what they were, "
            + "the outs what the called one has left in them (0 where its frame had become too small for them).";

    private static void ownRegistersComeBack(Expect expect) {
        expect.sentence(COMING_BACK);
        for (int outs = 0; outs <= 24; outs += 6) {
            for (int size = 0; size <= 24; size += 6) {
                Code code = calling(24, outs, 0).line(Code.FRAME, size, 0, 0);
                if (size > 0) {
                    code.line(Code.SET, 7 + size, 99);
                }
                PredicateMachine machine = code.line(Code.RETURN).ran(60);
                for (int k = 0; k < 24; k++) {
                    int out = k - (24 - outs);
                    long due = out < 0 ? 50 + k : out >= size ? 0 : out == size - 1 ? 99 : 50 + k;
                    String what = "outs " + outs + ", size " + size + ", at " + k;
                    expect.same(what, machine.register(8 + k), due);
                }
            }
        }
    }

    private static void outsComeBack(Expect expect) {
        expect.sentence(COMING_BACK);
        for (int smallest = 0; smallest <= 5; smallest++) {
            for (int last = 0; last <= 5; last++) {
                PredicateMachine machine = calling(5, 4, 0).line(Code.FRAME, smallest, 0, 0)
                        .line(Code.FRAME, last, 0, 0).line(Code.RETURN).ran(60);
                expect.same("not an out", machine.register(8), 50);
                for (int k = 0; k < 4; k++) {
                    boolean left = k < smallest && k < last;
                    String what = "4 outs, " + smallest + ", then " + last + ": out " + k;
                    expect.same(what, machine.register(9 + k), left ? 51 + k : 0);
                }
            }
        }
    }

    private static void outsWithNatComeBack(Expect expect) {
        expect.sentence(COMING_BACK);
        for (int size = 0; size <= 3; size++) {
            Code code = Code.fresh().line(Code.SET, 1, 32).line(Code.FRAME, 3, 2, 0);
            for (int k = 0; k < 3; k++) {
                code.line(Code.ADVANCE, 8 + k, 1);
            }
            PredicateMachine machine = code.line(Code.CALL, 7).line(Code.END)
                    .line(Code.FRAME, size, 0, 0).line(Code.RETURN).ran(30);
            expect.same("not an out", machine.nat(8), true);
            expect.same("the first out of " + size, machine.nat(9), size >= 1);
            expect.same("the second out of " + size, machine.nat(10), size >= 2);
        }
        PredicateMachine machine = Code.fresh().line(Code.SET, 1, 32).line(Code.FRAME, 2, 2, 0)
                .line(Code.ADVANCE, 8, 1).line(Code.CALL, 5).line(Code.END)
                .line(Code.SET, 8, 6).line(Code.ADVANCE, 9, 1).line(Code.RETURN).ran(30);
        expect.same("a NAT that the called one took away", machine.nat(8), false);
        expect.same("what it left", machine.register(8), 6);
        expect.same("a NAT that it left", machine.nat(9), true);
    }
}
