/**
 * Two objects with the same calls behind them, of which the second alone gets some more. When those
 * change nothing, both answer the same afterwards, whatever is called then.
 */
final class Twins {
    interface Maker {
        PredicateMachine make();
    }

    interface Calls {
        Object on(PredicateMachine machine);
    }

    // What is hidden (the draft, whether it has ended) shows in what these answer and leave.
    private static final Calls[] LATER = {
        machine -> "nothing more",
        machine -> machine.run(1),
        machine -> machine.run(500),
        machine -> machine.instruction(Code.END, 0, 0, 0, 0, true),
        machine -> machine.take()
    };

    private Twins() {
    }

    /** The calls must throw the exception of this name, and leave everything as it was. */
    static void refused(Expect expect, String what, Maker maker, String exception, Calls calls) {
        PredicateMachine machine = maker.make();
        expect.same(what, Expect.answer(() -> calls.on(machine)), "throws." + exception);
        unchanged(expect, what, maker, calls);
    }

    static void unchanged(Expect expect, String what, Maker maker, Calls calls) {
        for (int i = 0; i < LATER.length; i++) {
            Calls later = LATER[i];
            PredicateMachine one = maker.make();
            PredicateMachine other = maker.make();
            Expect.answer(() -> calls.on(other));
            String due = Expect.answer(() -> later.on(one));
            expect.same(what + ", then call " + i, Expect.answer(() -> later.on(other)), due);
            String differing = State.difference(State.of(one), State.of(other));
            expect.same(what + ", what differs behind call " + i, differing, "");
        }
    }
}
