/** Every answer that changes nothing, a line each: 246 calls of the 512 that an object is good for. */
final class State {
    private final StringBuilder text = new StringBuilder();

    private State() {
    }

    static String of(PredicateMachine machine) {
        State state = new State();
        for (int i = 0; i < 32; i++) {
            int k = i;
            state.add("register " + k, () -> machine.register(k));
            state.add("nat " + k, () -> machine.nat(k));
            state.add("memory " + k, () -> machine.memory(k));
        }
        for (int i = 0; i < 16; i++) {
            int k = i;
            state.add("predicate " + k, () -> machine.predicate(k));
        }
        for (int i = 0; i < 12; i++) {
            int k = i;
            state.add("look " + k, () -> machine.look(k));
        }
        for (int i = 0; i < 120; i++) {
            int k = i;
            state.add("backing " + k, () -> machine.backing(k));
        }
        state.add("fault 0", () -> machine.fault(0));
        state.add("fault 1", () -> machine.fault(1));
        return state.text.toString();
    }

    private void add(String call, Expect.Answer answer) {
        text.append(call).append(": ").append(Expect.answer(answer)).append('\n');
    }

    /** The lines in which two states differ, each with the answer of the one and of the other. */
    static String difference(String one, String other) {
        String[] lines = one.split("\n");
        String[] others = other.split("\n");
        StringBuilder differing = new StringBuilder();
        for (int i = 0; i < lines.length; i++) {
            if (!lines[i].equals(others[i])) {
                differing.append('[').append(lines[i]).append(" / ").append(others[i]).append(']');
            }
        }
        return differing.toString();
    }
}
