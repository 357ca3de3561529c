/** Promise 5: COUNT, TURN and what rotates. */
final class RunLoopsTest {
    public static void main(String[] args) {
        Expect expect = new Expect("RunLoopsTest");
        counts(expect);
        turnsWithNeither(expect);
        turnsToTheEnd(expect);
        registersRotate(expect, 8);
        registersRotate(expect, 16);
        predicatesRotate(expect);
        rotationStaysWithFrames(expect);
        rotationGoesRound(expect);
        pipelines(expect);
        expect.end();
    }

    private static void counts(Expect expect) {
        PredicateMachine machine = Code.fresh().line(Code.COUNT, 20, 19).line(Code.END).ran(5);
        expect.same("the loop count", machine.look(6), 20);
        expect.same("the end count", machine.look(7), 19);
    }

    private static void turnsWithNeither(Expect expect) {
        Code code = Code.fresh().line(Code.SAME, 8, 0, 0).line(Code.TURN, 0).line(Code.END);
        PredicateMachine machine = code.taken();
        expect.same("it goes on with the next", machine.run(3), 0);
        expect.same("B stays", machine.look(4), 0);
        expect.same("predicate 8 stays", machine.predicate(8), true);
    }

    // Each row: loop count, end count, B, predicate 8, and where it goes on, behind one TURN.
    private static void turnsToTheEnd(Expect expect) {
        PredicateMachine machine = Code.fresh().line(Code.COUNT, 2, 3).line(Code.TURN, 1)
                .line(Code.BRANCH, 1).taken();
        machine.run(1);
        int[][] due = {
            {1, 3, 15, 1, 1}, {0, 3, 14, 1, 1}, {0, 2, 13, 0, 1}, {0, 1, 12, 0, 1}, {0, 0, 11, 0, 2}
        };
        for (int[] row : due) {
            expect.same("a turn", machine.run(1), 5);
            expect.same("loop count", machine.look(6), row[0]);
            expect.same("end count", machine.look(7), row[1]);
            expect.same("B", machine.look(4), row[2]);
            expect.same("predicate 8", machine.predicate(8), row[3] == 1);
            expect.same("goes on", machine.look(0), row[4]);
        }
        machine.run(2);
        expect.same("B with neither", machine.look(4), 11);
        expect.same("goes on with neither", machine.look(0), 2);

        PredicateMachine noEnd = Code.fresh().line(Code.COUNT, 1, 0).line(Code.TURN, 1)
                .line(Code.END).taken();
        noEnd.run(2);
        expect.same("again with no end count", noEnd.look(0), 1);
        noEnd.run(1);
        expect.same("over with no end count", noEnd.look(0), 2);
        expect.same("B fell once", noEnd.look(4), 15);
    }

    private static void registersRotate(Expect expect, int turns) {
        Code code = Code.fresh().line(Code.FRAME, turns + 2, 0, turns).line(Code.COUNT, 3, 0);
        for (int k = 0; k < turns + 2; k++) {
            code.line(Code.SET, 8 + k, 100 + k);
        }
        code.line(Code.TURN, turns + 4).line(Code.BRANCH, turns + 4);
        PredicateMachine machine = code.taken();
        machine.run(turns + 4);
        for (int turn = 0; turn < 3; turn++) {
            for (int k = 0; k < turns; k++) {
                int place = Math.floorMod(k - turn, turns);
                expect.same("turn " + turn + " register " + k, machine.register(8 + k), 100 + place);
            }
            expect.same("one that does not turn", machine.register(8 + turns), 100 + turns);
            expect.same("the last", machine.register(9 + turns), 101 + turns);
            machine.run(1);
        }
    }

    private static void predicatesRotate(Expect expect) {
        Code code = Code.fresh().line(Code.COUNT, 0, 3).line(Code.SAME, 3, 0, 0);
        code.line(Code.SAME, 8, 0, 0).line(Code.SAME, 14, 0, 0);
        code.line(Code.TURN, 4).line(Code.LESS, 14, 0, 1).line(Code.END);
        PredicateMachine machine = code.taken();
        machine.run(4);
        expect.same("set", predicates(machine), "1001000010000010");
        machine.run(1);
        expect.same("turned, 8 by the TURN", predicates(machine), "1001000001000001");
        machine.run(1);
        expect.same("turned twice", predicates(machine), "1001000000100000");
        machine.run(1);
        expect.same("turned thrice", predicates(machine), "1001000000010000");
        machine.set(1, 1);
        machine.run(1);
        expect.same("written when turned", predicates(machine), "1001000000010010");
    }

    private static String predicates(PredicateMachine machine) {
        StringBuilder text = new StringBuilder();
        for (int predicate = 0; predicate < 16; predicate++) {
            text.append(machine.predicate(predicate) ? '1' : '0');
        }
        return text.toString();
    }

    private static void rotationStaysWithFrames(Expect expect) {
        Code code = Code.fresh().line(Code.FRAME, 10, 2, 8).line(Code.COUNT, 1, 0);
        code.line(Code.TURN, 3).line(Code.SET, 8, 5).line(Code.CALL, 6).line(Code.END);
        code.line(Code.FRAME, 8, 0, 8).line(Code.COUNT, 2, 0).line(Code.TURN, 8).line(Code.RETURN);
        PredicateMachine machine = code.taken();
        machine.run(4);
        expect.same("B before", machine.look(4), 15);
        expect.same("predicate 8 before", machine.predicate(8), true);
        machine.run(1);
        expect.same("B in the called", machine.look(4), 0);
        // All eight stay where they are, so B = 0 shows the one that was 8 as 15.
        expect.same("predicate 8 in the called", machine.predicate(8), false);
        expect.same("predicate 15 in the called", machine.predicate(15), true);
        expect.same("loop count in the called", machine.look(6), 0);
        machine.run(5);
        expect.same("B of the called", machine.look(4), 14);
        machine.run(2);
        expect.same("B comes back", machine.look(4), 15);
        expect.same("turns come back", machine.look(3), 8);
        expect.same("register 8 comes back", machine.register(8), 5);

        Code again = Code.fresh().line(Code.COUNT, 3, 0).line(Code.TURN, 2).line(Code.FRAME, 9, 0, 8);
        again.line(Code.SET, 9, 6).line(Code.FRAME, 9, 0, 0).line(Code.END);
        PredicateMachine reframed = again.ran(50);
        expect.same("FRAME leaves B", reframed.look(4), 15);
        expect.same("at its place without turns", reframed.register(8), 6);
    }

    private static void rotationGoesRound(Expect expect) {
        Code code = Code.fresh().line(Code.FRAME, 16, 0, 16).line(Code.COUNT, 20, 0);
        code.line(Code.SET, 8, 1).line(Code.TURN, 3).line(Code.END);
        PredicateMachine machine = code.taken();
        machine.run(3);
        for (int turn = 1; turn <= 20; turn++) {
            machine.run(1);
            expect.same("B of turn " + turn, machine.look(4), Math.floorMod(-turn, 16));
            expect.same("where it is", machine.register(8 + turn % 16), 1);
        }
    }

    // A loop in stages: each value is loaded in one turn and added in the next.
    private static void pipelines(Expect expect) {
        Code code = Code.fresh().line(Code.FRAME, 8, 0, 8).line(Code.COUNT, 4, 2);
        code.line(Code.SAME, 8, 0, 0);
        code.openWhen(8, Code.LOAD, 8, 1).openWhen(9, Code.ADD, 2, 2, 9).when(8, Code.ADD, 1, 1, 3);
        code.line(Code.TURN, 3).line(Code.END);
        Code faulty = Code.fresh().openWhen(8, Code.LOAD, 8, 1).when(8, Code.ADD, 1, 1, 3);
        expect.same("read, then written", faulty.line(Code.END).faultFound(), "0 at -1");
        PredicateMachine machine = code.taken();
        machine.set(3, 1);
        for (int cell = 0; cell < 10; cell++) {
            machine.poke(cell, 1L << cell);
        }
        expect.same("it ends", machine.run(100), 0);
        expect.same("five values", machine.register(2), 31);
        expect.same("five addresses", machine.register(1), 5);
    }
}
