/** Promise 5: FRAME, CALL and RETURN, spilling and filling. */
final class RunFramesTest {
    public static void main(String[] args) {
        Expect expect = new Expect("RunFramesTest");
        framesGrowAndShrink(expect);
        outsAreShared(expect);
        outsThatWereLeft(expect);
        statesOfFrames(expect);
        spillsTheLowest(expect);
        fillsOnlyTheFrame(expect);
        natsSpillAndComeBack(expect);
        turningOuts(expect);
        returnsBehindItsCall(expect);
        expect.end();
    }

    private static void framesGrowAndShrink(Expect expect) {
        Code code = Code.fresh().line(Code.FRAME, 4, 0, 0).line(Code.SET, 8, 5).line(Code.SET, 11, 6);
        code.line(Code.SET, 1, -1).line(Code.ADVANCE, 10, 1);
        code.line(Code.FRAME, 2, 0, 0).line(Code.FRAME, 24, 3, 16).line(Code.END);
        PredicateMachine machine = code.taken();
        machine.run(6);
        expect.same("nat is gone with it", Expect.outcome(() -> machine.nat(10)),
                "throws.IllegalArgumentException");
        expect.same("what stays", machine.register(8), 5);
        machine.run(5);
        expect.same("what stays when it grows", machine.register(8), 5);
        expect.same("NAT does not come back", machine.nat(10), false);
        for (int register = 9; register < 32; register++) {
            expect.same("register " + register, machine.register(register), 0);
        }
        expect.same("size", machine.look(1), 24);
        expect.same("outs", machine.look(2), 3);
        expect.same("turns", machine.look(3), 16);
        expect.same("nothing spilled", machine.look(8), 0);
    }

    private static void outsAreShared(Expect expect) {
        Code code = Code.fresh().line(Code.FRAME, 5, 2, 0).line(Code.SET, 8, 1).line(Code.SET, 11, 2);
        code.line(Code.SET, 12, 3).line(Code.CALL, 6).line(Code.END);
        code.line(Code.FRAME, 6, 0, 0).line(Code.ADD, 8, 8, 9).line(Code.SET, 10, 99);
        code.line(Code.SET, 1, -1).line(Code.ADVANCE, 9, 1).line(Code.RETURN);
        PredicateMachine machine = code.taken();
        machine.run(5);
        expect.same("size of the called", machine.look(1), 2);
        expect.same("outs of the called", machine.look(2), 0);
        expect.same("its place", machine.look(10), 3);
        expect.same("its first", machine.register(8), 2);
        expect.same("its second", machine.register(9), 3);
        expect.badArgument("its third", () -> machine.register(10));
        expect.same("the end", machine.run(50), 0);
        expect.same("the caller's own", machine.register(8), 1);
        expect.same("the first out", machine.register(11), 5);
        expect.same("the second out", machine.register(12), 0);
        expect.same("its NAT", machine.nat(12), true);
        expect.same("size comes back", machine.look(1), 5);
        expect.same("outs come back", machine.look(2), 2);
    }

    private static void outsThatWereLeft(Expect expect) {
        Code code = Code.fresh().line(Code.SET, 1, -1).line(Code.FRAME, 4, 3, 0);
        code.line(Code.SET, 8, 6).line(Code.SET, 9, 7).line(Code.SET, 10, 8);
        code.line(Code.ADVANCE, 11, 1).line(Code.CALL, 8).line(Code.END);
        PredicateMachine machine = code.line(Code.FRAME, 1, 0, 0).line(Code.RETURN).ran(50);
        expect.same("not an out", machine.register(8), 6);
        expect.same("an out it had", machine.register(9), 7);
        expect.same("an out it had no more", machine.register(10), 0);
        expect.same("a NAT it had no more", machine.nat(11), false);

        code = Code.fresh().line(Code.FRAME, 2, 2, 0).line(Code.SET, 8, 6).line(Code.SET, 9, 7);
        code.line(Code.CALL, 5).line(Code.END);
        code.line(Code.FRAME, 1, 0, 0).line(Code.FRAME, 9, 0, 0).line(Code.RETURN);
        PredicateMachine grown = code.ran(50);
        expect.same("an out that stayed", grown.register(8), 6);
        expect.same("an out that went and came", grown.register(9), 0);
    }

    private static void statesOfFrames(Expect expect) {
        Code code = Code.fresh().line(Code.FRAME, 10, 3, 8).line(Code.CALL, 3).line(Code.END);
        code.line(Code.FRAME, 9, 9, 8).line(Code.CALL, 6).line(Code.RETURN);
        code.line(Code.RETURN);
        PredicateMachine machine = code.taken();
        int[][] due = {
            {1, 10, 3, 8, 0, 0}, {3, 3, 0, 0, 1, 7}, {4, 9, 9, 8, 1, 7},
            {6, 9, 0, 0, 2, 7}, {5, 9, 9, 8, 1, 7}, {2, 10, 3, 8, 0, 0}
        };
        for (int[] row : due) {
            machine.run(1);
            expect.same("goes on", machine.look(0), row[0]);
            expect.same("size", machine.look(1), row[1]);
            expect.same("outs", machine.look(2), row[2]);
            expect.same("turns", machine.look(3), row[3]);
            expect.same("called", machine.look(5), row[4]);
            expect.same("place", machine.look(10), row[5]);
        }
    }

    private static Code filledFrame(Code code, int first) {
        code.line(Code.FRAME, 9, 1, 0);
        for (int k = 0; k < 4; k++) {
            code.line(Code.SET, 8 + k, first + k);
        }
        return code;
    }

    private static void spillsTheLowest(Expect expect) {
        Code code = filledFrame(Code.fresh(), 10).line(Code.CALL, 7).line(Code.END);
        filledFrame(code, 20).line(Code.CALL, 14).line(Code.RETURN);
        code.line(Code.FRAME, 8, 0, 0).line(Code.FRAME, 9, 0, 0).line(Code.FRAME, 1, 0, 0);
        code.line(Code.FRAME, 11, 0, 0).line(Code.RETURN);
        PredicateMachine machine = code.taken();
        machine.run(12);
        expect.same("17 fit", machine.look(8), 0);
        machine.run(1);
        expect.same("24 fit", machine.look(8), 0);
        expect.same("the lowest of 24", machine.look(11), 0);
        machine.run(1);
        expect.same("25 spill one", machine.look(8), 1);
        expect.same("the lowest of 25", machine.look(11), 1);
        expect.same("what was spilled", machine.backing(0), 10);
        expect.same("what was not", machine.backing(1), 0);
        machine.run(1);
        expect.same("a smaller one spills none", machine.look(8), 1);
        expect.same("and fills none", machine.look(9), 0);
        expect.same("the lowest stays", machine.look(11), 1);
        machine.run(1);
        expect.same("27 spill two more", machine.look(8), 3);
        expect.same("the second", machine.backing(1), 11);
        expect.same("the third", machine.backing(2), 12);
        machine.run(1);
        expect.same("the middle frame fills none", machine.look(9), 0);
        expect.same("its value", machine.register(9), 21);
        machine.run(2);
        expect.same("the first frame fills three", machine.look(9), 3);
        expect.same("the lowest", machine.look(11), 0);
        for (int k = 0; k < 4; k++) {
            expect.same("the first frame's " + k, machine.register(8 + k), 10 + k);
        }
        expect.same("the store keeps its own", machine.backing(2), 12);
    }

    // Three frames of 24: coming back, a frame brings only what is its own.
    private static void fillsOnlyTheFrame(Expect expect) {
        Code code = Code.fresh().line(Code.ADD, 1, 1, 2).line(Code.FRAME, 24, 0, 0);
        code.line(Code.ADD, 8, 1, 0).line(Code.ADD, 31, 1, 1).line(Code.LESS, 1, 1, 3);
        code.when(1, Code.CALL, 0).line(Code.NOTHING).line(Code.RETURN);
        PredicateMachine machine = code.taken();
        machine.set(2, 1);
        machine.set(3, 3);
        machine.run(18);
        expect.same("called", machine.look(5), 2);
        expect.same("spilled", machine.look(8), 48);
        expect.same("lowest", machine.look(11), 48);
        expect.same("its first", machine.register(8), 3);
        machine.run(2);
        expect.same("one back: filled", machine.look(9), 24);
        expect.same("one back: lowest", machine.look(11), 24);
        expect.same("one back: first", machine.register(8), 2);
        expect.same("one back: last", machine.register(31), 4);
        expect.same("two back", machine.run(3), 5);
        expect.same("two back: filled", machine.look(9), 48);
        expect.same("two back: lowest", machine.look(11), 0);
        expect.same("two back: first", machine.register(8), 1);
        expect.same("two back: last", machine.register(31), 2);
        expect.same("spilled as before", machine.look(8), 48);
    }

    private static void natsSpillAndComeBack(Expect expect) {
        Code code = Code.fresh().line(Code.SET, 1, -1).line(Code.FRAME, 2, 0, 0);
        code.line(Code.ADVANCE, 8, 1).line(Code.ADD, 8, 8, 1).line(Code.SET, 9, 4);
        code.line(Code.CALL, 7).line(Code.END).line(Code.FRAME, 24, 0, 0).line(Code.RETURN);
        PredicateMachine machine = code.ran(50);
        expect.same("spilled", machine.look(8), 2);
        expect.same("filled", machine.look(9), 2);
        expect.same("the value with NAT", machine.register(8), -1);
        expect.same("its NAT", machine.nat(8), true);
        expect.same("its value in the store", machine.backing(0), -1);
        expect.same("the other's NAT", machine.nat(9), false);
        expect.same("the other", machine.register(9), 4);
    }

    // Outs are by their places, whatever the rotation shows there.
    private static void turningOuts(Expect expect) {
        Code code = Code.fresh().line(Code.FRAME, 8, 2, 8).line(Code.COUNT, 1, 0).line(Code.TURN, 3);
        for (int k = 0; k < 8; k++) {
            code.line(Code.SET, 8 + k, 10 + k);
        }
        code.line(Code.CALL, 13).line(Code.END).line(Code.ADD, 8, 8, 8).line(Code.RETURN);
        PredicateMachine machine = code.taken();
        machine.run(12);
        expect.same("place 6 is register 15", machine.register(8), 17);
        expect.same("place 7 is register 8", machine.register(9), 10);
        machine.run(5);
        expect.same("register 15", machine.register(15), 34);
        expect.same("register 8", machine.register(8), 10);
        expect.same("register 14", machine.register(14), 16);
    }

    private static void returnsBehindItsCall(Expect expect) {
        Code code = Code.fresh().line(Code.CALL, 4).line(Code.CALL, 4).line(Code.CALL, 3);
        code.line(Code.END).line(Code.ADD, 1, 1, 2).line(Code.RETURN);
        PredicateMachine machine = code.taken();
        machine.set(2, 1);
        expect.same("END in a called one", machine.run(50), 0);
        expect.same("twice", machine.register(1), 2);
        expect.same("called still", machine.look(5), 1);
        expect.same("at the END", machine.look(0), 3);
    }
}
