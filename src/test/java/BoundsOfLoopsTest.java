/** The bounds that the document's terms name for COUNT and TURN. */
final class BoundsOfLoopsTest {
    public static void main(String[] args) {
        Expect expect = new Expect("BoundsOfLoopsTest");
        counts(expect);
        whatFalls(expect);
        baseComesRound(expect);
        predicateEight(expect);
        withNeither(expect);
        whereItGoesOn(expect);
        longestLoop(expect);
        countsAreNotOfFrames(expect);
        expect.end();
    }

    private static PredicateMachine counted(int loops, int ends) {
        PredicateMachine machine = Code.fresh().line(Code.COUNT, loops, ends).line(Code.NOTHING)
                .line(Code.TURN, 1).line(Code.BRANCH, 2).taken();
        machine.run(2);
        return machine;
    }

    private static void counts(Expect expect) {
        expect.sentence("18 COUNT a b: the loop count becomes a, the end count b.");
        for (int count = 0; count <= 20; count++) {
            PredicateMachine machine = counted(count, 20 - count);
            expect.same("loop count", machine.look(6), count);
            expect.same("end count", machine.look(7), 20 - count);
        }
        PredicateMachine again = Code.fresh().line(Code.COUNT, 20, 20).line(Code.COUNT, 0, 0).line(Code.END).ran(9);
        expect.same("loop count over another", again.look(6), 0);
        expect.same("end count over another", again.look(7), 0);
    }

    private static void whatFalls(Expect expect) {
        expect.sentence("when the loop count is above 0: it falls by 1; otherwise, when the end count is above 0, "
                + "that falls by 1");
        int[] edges = {0, 1, 2, 20};
        for (int loops : edges) {
            for (int ends : edges) {
                PredicateMachine machine = counted(loops, ends);
                machine.run(1);
                int endsDue = loops == 0 && ends > 0 ? ends - 1 : ends;
                expect.same("loop count of " + loops + ", " + ends, machine.look(6), Math.max(0, loops - 1));
                expect.same("end count of " + loops + ", " + ends, machine.look(7), endsDue);
            }
        }
    }

    private static void baseComesRound(Expect expect) {
        expect.sentence("in both cases B falls by 1 (15 behind 0)");
        int[][] counts = {{20, 0}, {0, 20}, {9, 11}};
        for (int[] count : counts) {
            PredicateMachine machine = counted(count[0], count[1]);
            expect.same("before", machine.look(4), 0);
            int base = 0;
            for (int turn = 1; turn <= 20; turn++) {
                base = base == 0 ? 15 : base - 1;
                machine.run(turn == 1 ? 1 : 2);
                expect.same("turn " + turn + " of " + count[0] + ", " + count[1], machine.look(4), base);
            }
        }
    }

    private static void predicateEight(Expect expect) {
        expect.sentence("predicate 8 becomes (after that) whether the loop count was above 0");
        int[][] cases = {{2, 0, 1}, {1, 0, 1}, {1, 5, 1}, {20, 20, 1}, {0, 1, 0}, {0, 2, 0}, {0, 20, 0}};
        for (int[] one : cases) {
            // 15 is false with SAME and true with LESS: what comes round to 8 is written over.
            int[] writing = {Code.SAME, Code.LESS};
            for (int operation : writing) {
                PredicateMachine machine = Code.fresh().line(Code.COUNT, one[0], one[1])
                        .line(operation, 14, 0, 0).line(Code.SAME, 8, 0, 0).line(Code.TURN, 4).line(Code.END).taken();
                machine.run(4);
                expect.same("of " + one[0] + ", " + one[1], machine.predicate(8), one[2] == 1);
                expect.same("the one that was 8", machine.predicate(9), true);
                expect.same("the one that was 9", machine.predicate(10), false);
                expect.same("the one that was 14", machine.predicate(15), operation == Code.SAME);
            }
        }
    }

    private static void withNeither(Expect expect) {
        expect.sentence("with neither, both stay as they were");
        for (int truth = 0; truth <= 1; truth++) {
            for (int turns = 0; turns <= 17; turns += 17) {
                // 17 turns first, so that B is 15; then predicate 8 is written, then TURN with neither.
                PredicateMachine machine = Code.fresh().line(Code.COUNT, turns, 0).line(Code.TURN, 1)
                        .line(truth == 1 ? Code.SAME : Code.LESS, 8, 0, 0).line(Code.TURN, 0).line(Code.END).taken();
                machine.run(turns + 3);
                int base = turns == 0 ? 0 : 15;
                expect.same("at the TURN", machine.look(0), 3);
                String before = State.of(machine);
                expect.same("B before", machine.look(4), base);
                machine.run(1);
                expect.same("B", machine.look(4), base);
                expect.same("predicate 8", machine.predicate(8), truth == 1);
                expect.same("predicate 9", machine.predicate(9), truth == 0);
                expect.same("it goes on with the next", machine.look(0), 4);
                expect.same("the counts", machine.look(6) + machine.look(7), 0);
                expect.same("look 0 alone differs", State.difference(before, State.of(machine)),
                        "[look 0: 3 / look 0: 4]");
            }
        }
    }

    private static void whereItGoesOn(Expect expect) {
        expect.sentence("it goes on at a when the loop count was above 0 or the end count was above 1, "
                + "otherwise with the next one.");
        int[] edges = {0, 1, 2, 20};
        for (int loops : edges) {
            for (int ends : edges) {
                PredicateMachine machine = counted(loops, ends);
                machine.run(1);
                boolean again = loops > 0 || ends > 1;
                expect.same("of " + loops + ", " + ends, machine.look(0), again ? 1 : 3);
            }
        }
    }

    private static void longestLoop(Expect expect) {
        expect.sentence("it goes on at a when the loop count was above 0 or the end count was above 1, "
                + "otherwise with the next one.");
        int[][] counts = {{20, 20, 40}, {20, 0, 21}, {20, 1, 21}, {0, 20, 20}, {0, 1, 1}, {0, 0, 1}, {1, 1, 2}};
        for (int[] count : counts) {
            PredicateMachine machine = Code.fresh().line(Code.COUNT, count[0], count[1])
                    .line(Code.ADD, 1, 1, 2).line(Code.TURN, 1).line(Code.END).taken();
            machine.set(2, 1);
            expect.same("it ends", machine.run(500), 0);
            String what = "how often with " + count[0] + ", " + count[1];
            expect.same(what, machine.register(1), count[2]);
            expect.same("both counts are 0", machine.look(6) + machine.look(7), 0);
        }
    }

    private static void countsAreNotOfFrames(Expect expect) {
        expect.sentence("With CALL, B, the size, outs and turns are kept with the frame that is left, "
                + "and B is 0; RETURN brings them back.");
        PredicateMachine machine = Code.fresh().line(Code.COUNT, 5, 6).line(Code.CALL, 3).line(Code.END)
                .line(Code.TURN, 4).line(Code.RETURN).taken();
        machine.run(2);
        expect.same("the loop count is not kept", machine.look(6), 5);
        expect.same("nor the end count", machine.look(7), 6);
        expect.same("it ends", machine.run(9), 0);
        expect.same("the loop count of the called", machine.look(6), 4);
        expect.same("B of the first", machine.look(4), 0);
    }
}
