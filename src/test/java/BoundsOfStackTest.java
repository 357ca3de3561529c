/** The bounds that the document's terms name for the stack, the row and the backing store. */
final class BoundsOfStackTest {
    public static void main(String[] args) {
        Expect expect = new Expect("BoundsOfStackTest");
        physicalOnes(expect);
        theRow(expect);
        spillsOneByOne(expect);
        spillsTheLowest(expect);
        comesWithoutSpilling(expect);
        shrinksAndGrows(expect);
        spillsNats(expect);
        fillsWhatWasSpilled(expect);
        fillsThatFrameAlone(expect);
        spillsAgain(expect);
        longestRow(expect);
        outsCountOnce(expect);
        rowIsFreeAgain(expect);
        fortyCalled(expect);
        fortyAtOnce(expect);
        expect.end();
    }

    // A frame whose registers hold 50, 51, .., then a called one behind it with a size of its own.
    private static Code twoFrames(int first, int outs, int second) {
        Code code = Code.fresh().line(Code.FRAME, first, outs, 0);
        for (int k = 0; k < first; k++) {
            code.line(Code.SET, 8 + k, 50 + k);
        }
        return code.line(Code.CALL, first + 3).line(Code.END).line(Code.FRAME, second, 0, 0);
    }

    private static void physicalOnes(Expect expect) {
        expect.sentence("THE STACK of registers has 24 PHYSICAL ones.");
        for (int first = 0; first <= 24; first++) {
            for (int second = 0; second <= 24; second++) {
                PredicateMachine machine = twoFrames(first, 0, second).line(Code.RETURN).taken();
                machine.run(first + 3);
                int due = Math.max(0, first + second - 24);
                String what = first + " and " + second;
                expect.same(what + ": spilled", machine.look(8), due);
                expect.same(what + ": lowest", machine.look(11), due);
                for (int k = 0; k < 25; k++) {
                    expect.same(what + ": backing " + k, machine.backing(k), k < due ? 50 + k : 0);
                }
            }
        }
    }

    private static void theRow(Expect expect) {
        expect.sentence("The frames that are called one from the other stand one behind the other in a row "
                + "(the outs of one are the first ones of the next).");
        for (int outs = 0; outs <= 6; outs++) {
            PredicateMachine machine = Code.fresh().line(Code.FRAME, 6, outs, 0).line(Code.CALL, 2)
                    .line(Code.FRAME, 6, outs, 0).line(Code.CALL, 4).line(Code.FRAME, 6, outs, 0).line(Code.END).taken();
            int[] called = {0, 1, 1, 2, 2};
            for (int depth : called) {
                machine.run(1);
                expect.same("outs " + outs + ", depth " + depth, machine.look(10), depth * (6 - outs));
            }
        }
    }

    private static final String SPILLING = "When a frame grows, or comes, so that more than 24 in a row would be held, "
            + "the lowest ones that are held are SPILLED, each to the BACKING store (with its NAT), until there are 24.";

    private static void spillsOneByOne(Expect expect) {
        expect.sentence(SPILLING);
        Code code = twoFrames(10, 0, 0);
        for (int size = 1; size <= 24; size++) {
            code.line(Code.FRAME, size, 0, 0);
        }
        PredicateMachine machine = code.line(Code.RETURN).taken();
        machine.run(13);
        for (int size = 1; size <= 24; size++) {
            machine.run(1);
            int due = Math.max(0, size - 14);
            expect.same("10 and " + size + ": spilled", machine.look(8), due);
            expect.same("10 and " + size + ": lowest", machine.look(11), due);
            if (due > 0) {
                expect.same("the latest", machine.backing(due - 1), 50 + due - 1);
            }
            expect.same("none more", machine.backing(due), 0);
        }
    }

    private static void spillsTheLowest(Expect expect) {
        expect.sentence(SPILLING);
        // Three frames of 10, 10 and what comes: the first goes, then the second.
        for (int third = 0; third <= 24; third++) {
            Code code = Code.fresh().line(Code.ADD, 1, 1, 2).line(Code.FRAME, 10, 0, 0).line(Code.ADD, 8, 1, 0);
            code.line(Code.ADD, 17, 1, 1).line(Code.LESS, 1, 1, 3).when(1, Code.CALL, 0).line(Code.CALL, 7);
            PredicateMachine machine = code.line(Code.FRAME, third, 0, 0).line(Code.RETURN).taken();
            machine.set(2, 1);
            machine.set(3, 2);
            machine.run(14);
            expect.same("two are called", machine.look(5), 2);
            int due = Math.max(0, 20 + third - 24);
            expect.same("10, 10 and " + third + ": spilled", machine.look(8), due);
            expect.same("10, 10 and " + third + ": lowest", machine.look(11), due);
            expect.same("the first's first", machine.backing(0), due > 0 ? 1 : 0);
            expect.same("the first's last", machine.backing(9), due > 9 ? 2 : 0);
            expect.same("the second's first", machine.backing(10), due > 10 ? 2 : 0);
            expect.same("the second's last", machine.backing(19), due > 19 ? 4 : 0);
        }
    }

    // A called frame comes with the outs, which are held already.
    private static void comesWithoutSpilling(Expect expect) {
        expect.sentence(SPILLING);
        for (int outs = 0; outs <= 24; outs++) {
            PredicateMachine machine = Code.fresh().line(Code.FRAME, 24, outs, 0).line(Code.CALL, 2)
                    .line(Code.FRAME, outs, 0, 0).line(Code.RETURN).taken();
            for (int step = 0; step < 4; step++) {
                machine.run(1);
                expect.same("outs " + outs + ", step " + step + ": spilled", machine.look(8), 0);
                expect.same("outs " + outs + ", step " + step + ": lowest", machine.look(11), 0);
                expect.same("outs " + outs + ", step " + step + ": filled", machine.look(9), 0);
            }
        }
    }

    private static void shrinksAndGrows(Expect expect) {
        expect.sentence(SPILLING);
        PredicateMachine machine = twoFrames(10, 0, 20).line(Code.FRAME, 0, 0, 0).line(Code.FRAME, 20, 0, 0)
                .line(Code.FRAME, 21, 0, 0).line(Code.FRAME, 24, 0, 0).line(Code.RETURN).taken();
        machine.run(12);
        int[] due = {6, 6, 6, 7, 10};
        for (int spilled : due) {
            machine.run(1);
            expect.same("spilled", machine.look(8), spilled);
            expect.same("lowest", machine.look(11), spilled);
            expect.same("filled", machine.look(9), 0);
        }
    }

    private static void spillsNats(Expect expect) {
        expect.sentence(SPILLING);
        // Places 0 and 2 have NAT, 1 has none; the values are 32, 5, 32.
        PredicateMachine machine = Code.fresh().line(Code.SET, 1, 32).line(Code.FRAME, 3, 0, 0)
                .line(Code.ADVANCE, 8, 1).line(Code.ADD, 8, 8, 1).line(Code.SET, 9, 5).line(Code.ADD, 10, 8, 0)
                .line(Code.CALL, 8).line(Code.END).line(Code.FRAME, 24, 0, 0).line(Code.RETURN).taken();
        machine.run(8);
        expect.same("spilled", machine.look(8), 3);
        expect.same("the value of one with NAT", machine.backing(0), 32);
        expect.same("the value of one without", machine.backing(1), 5);
        expect.same("it ends", machine.run(9), 0);
        for (int k = 0; k < 3; k++) {
            expect.same("NAT at " + k, machine.nat(8 + k), k != 1);
            expect.same("value at " + k, machine.register(8 + k), k == 1 ? 5 : 32);
        }
    }

    private static final String FILLING = "When a RETURN brings a frame of which some were spilled, these are FILLED, "
            + "the highest first.";

    private static void fillsWhatWasSpilled(Expect expect) {
        expect.sentence(FILLING);
        for (int first = 0; first <= 24; first++) {
            for (int second = 0; second <= 24; second++) {
                PredicateMachine machine = twoFrames(first, 0, second).line(Code.RETURN).taken();
                machine.run(first + 4);
                int due = Math.max(0, first + second - 24);
                String what = first + " and " + second;
                expect.same(what + ": filled", machine.look(9), due);
                expect.same(what + ": spilled", machine.look(8), due);
                expect.same(what + ": lowest", machine.look(11), 0);
                for (int k = 0; k < first; k++) {
                    expect.same(what + ": at " + k, machine.register(8 + k), 50 + k);
                }
            }
        }
    }

    // Frames of 12 at 0, 12, 24, 36: the fourth spills the first two.
    private static void fillsThatFrameAlone(Expect expect) {
        expect.sentence(FILLING);
        Code code = Code.fresh().line(Code.ADD, 1, 1, 2).line(Code.FRAME, 12, 0, 0).line(Code.ADD, 8, 1, 0);
        code.line(Code.ADD, 19, 1, 0).line(Code.LESS, 1, 1, 3).when(1, Code.CALL, 0).line(Code.RETURN);
        PredicateMachine machine = code.taken();
        machine.set(2, 1);
        machine.set(3, 4);
        machine.run(24);
        // Behind each RETURN: where the frame begins, the lowest, filled, and what its ends hold.
        int[][] due = {{36, 24, 0, 4}, {24, 24, 0, 3}, {12, 12, 12, 2}, {0, 0, 24, 1}};
        for (int[] row : due) {
            expect.same("where it begins", machine.look(10), row[0]);
            expect.same("lowest", machine.look(11), row[1]);
            expect.same("filled", machine.look(9), row[2]);
            expect.same("spilled", machine.look(8), 24);
            expect.same("its first", machine.register(8), row[3]);
            expect.same("its last", machine.register(19), row[3]);
            machine.run(1);
        }
    }

    private static void spillsAgain(Expect expect) {
        expect.sentence("What was spilled last from place k of the row (0 when nothing was).");
        PredicateMachine machine = Code.fresh().line(Code.FRAME, 2, 0, 0).line(Code.SET, 8, 5).line(Code.CALL, 5)
                .line(Code.ADD, 8, 8, 8).line(Code.BRANCH, 2).line(Code.FRAME, 24, 0, 0).line(Code.RETURN).taken();
        machine.run(2);
        for (int round = 1; round <= 10; round++) {
            expect.same("before " + round, machine.backing(0), round == 1 ? 0 : 5L << (round - 2));
            machine.run(2);
            expect.same("what was spilled last", machine.backing(0), 5L << (round - 1));
            expect.same("place 1", machine.backing(1), 0);
            expect.same("spilled in all", machine.look(8), 2 * round);
            expect.same("filled before", machine.look(9), 2 * round - 2);
            machine.run(1);
            expect.same("filled in all", machine.look(9), 2 * round);
            expect.same("come back", machine.register(8), 5L << (round - 1));
            machine.run(2);
        }
    }

    private static final String LIMITS = "The row has at most 120; a FRAME that would need more FAULTS, "
            + "as does a CALL when 40 were called that have not returned.";

    // Frames of first, 24, 24, 24, 24 and last.
    private static PredicateMachine rowOf(int first, int last) {
        Code code = Code.fresh().line(Code.FRAME, first, 0, 0).line(Code.CALL, 2);
        for (int i = 1; i <= 4; i++) {
            code.line(Code.FRAME, 24, 0, 0).line(Code.CALL, 2 * i + 2);
        }
        return code.line(Code.FRAME, last, 0, 0).line(Code.END).taken();
    }

    private static void longestRow(Expect expect) {
        expect.sentence(LIMITS);
        for (int first = 0; first <= 24; first++) {
            PredicateMachine full = rowOf(first, 24 - first);
            expect.same("120 with " + first, full.run(20), 0);
            expect.same("its size", full.look(1), 24 - first);
            expect.same("spilled", full.look(8), 96);
            expect.same("lowest", full.look(11), 96);
            if (first == 0) {
                continue;
            }
            PredicateMachine more = rowOf(first, 25 - first);
            expect.same("121 with " + first, more.run(20), 4);
            expect.same("where", more.look(0), 10);
            expect.same("its size stays", more.look(1), 0);
            expect.same("where it begins", more.look(10), 96 + first);
            expect.same("spilled before", more.look(8), 72 + first);
            expect.same("again", more.run(20), 4);
        }
    }

    private static void outsCountOnce(Expect expect) {
        expect.sentence(LIMITS);
        // Frames of 24 with 12 outs begin at 0, 12, .. 96; the next would begin at 108.
        PredicateMachine machine = Code.fresh().line(Code.FRAME, 24, 12, 0).line(Code.CALL, 0).line(Code.END).taken();
        expect.same("too long", machine.run(100), 4);
        expect.same("how many were called", machine.look(5), 9);
        expect.same("where it begins", machine.look(10), 108);
        expect.same("its size", machine.look(1), 12);
        expect.same("spilled", machine.look(8), 96);
    }

    private static void rowIsFreeAgain(Expect expect) {
        expect.sentence(LIMITS);
        // The fifth frame becomes smaller before it calls, and so there is room for the sixth.
        Code code = Code.fresh();
        for (int i = 0; i < 5; i++) {
            code.line(Code.FRAME, 24, 0, 0);
            if (i == 4) {
                code.line(Code.FRAME, 10, 0, 0);
            }
            code.line(Code.CALL, 2 * i + 2 + i / 4);
        }
        PredicateMachine machine = code.line(Code.FRAME, 14, 0, 0).line(Code.FRAME, 15, 0, 0).line(Code.END).taken();
        expect.same("14 behind 106, not 15", machine.run(30), 4);
        expect.same("at the second", machine.look(0), 12);
        expect.same("its size", machine.look(1), 14);
        expect.same("where it begins", machine.look(10), 106);
    }

    private static void fortyCalled(Expect expect) {
        expect.sentence(LIMITS);
        PredicateMachine machine = Code.fresh().line(Code.CALL, 0).line(Code.END).taken();
        for (int called = 1; called <= 40; called++) {
            expect.same("CALL " + called, machine.run(1), 5);
            expect.same("called", machine.look(5), called);
        }
        for (int more = 0; more < 3; more++) {
            expect.same("one more", machine.run(1), 4);
            expect.same("forty still", machine.look(5), 40);
            expect.same("at the CALL", machine.look(0), 0);
        }
    }

    // Calls itself until register 7 is 0, then calls and returns for ever.
    private static PredicateMachine callingAt(int depth) {
        PredicateMachine machine = Code.fresh().line(Code.SUBTRACT, 7, 7, 6).line(Code.LESS, 1, 0, 7)
                .when(1, Code.CALL, 0).line(Code.CALL, 5).line(Code.BRANCH, 3).line(Code.RETURN).taken();
        machine.set(6, 1);
        machine.set(7, depth + 1);
        return machine;
    }

    private static void fortyAtOnce(Expect expect) {
        expect.sentence(LIMITS);
        int[] depths = {0, 1, 38, 39};
        for (int depth : depths) {
            PredicateMachine machine = callingAt(depth);
            expect.same("calling at " + depth, machine.run(500), 5);
            expect.same("more than forty in all, at " + depth, machine.run(500), 5);
        }
        PredicateMachine machine = callingAt(40);
        expect.same("calling at 40", machine.run(500), 4);
        expect.same("called", machine.look(5), 40);
        expect.same("at the CALL", machine.look(0), 3);
    }
}
