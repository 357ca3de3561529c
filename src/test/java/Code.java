/** Writes drafts by the names of the operations; each line ends its group unless it says "open". */
final class Code {
    static final int NOTHING = 0;
    static final int SET = 1;
    static final int ADD = 2;
    static final int SUBTRACT = 3;
    static final int MULTIPLY = 4;
    static final int AND = 5;
    static final int LESS = 6;
    static final int SAME = 7;
    static final int LOAD = 8;
    static final int ADVANCE = 9;
    static final int STORE = 10;
    static final int KEEP = 11;
    static final int BRING = 12;
    static final int CHECK = 13;
    static final int BRANCH = 14;
    static final int CALL = 15;
    static final int RETURN = 16;
    static final int FRAME = 17;
    static final int COUNT = 18;
    static final int TURN = 19;
    static final int END = 20;

    final PredicateMachine machine;

    Code(PredicateMachine machine) {
        this.machine = machine;
    }

    static Code fresh() {
        return new Code(new PredicateMachine());
    }

    Code line(int operation, int... numbers) {
        return when(0, operation, numbers);
    }

    Code when(int q, int operation, int... numbers) {
        machine.instruction(operation, q, at(numbers, 0), at(numbers, 1), at(numbers, 2), true);
        return this;
    }

    Code open(int operation, int... numbers) {
        return openWhen(0, operation, numbers);
    }

    Code openWhen(int q, int operation, int... numbers) {
        machine.instruction(operation, q, at(numbers, 0), at(numbers, 1), at(numbers, 2), false);
        return this;
    }

    PredicateMachine taken() {
        machine.take();
        return machine;
    }

    PredicateMachine ran(int budget) {
        machine.take();
        machine.run(budget);
        return machine;
    }

    /** The fault and the instruction that a taking finds, as "fault at instruction". */
    String faultFound() {
        String outcome = Expect.outcome(machine::take);
        String found = machine.fault(0) + " at " + machine.fault(1);
        boolean throwsRightly = outcome.equals("throws.IllegalArgumentException");
        return throwsRightly == (machine.fault(0) != 0) ? found : found + " but " + outcome;
    }

    private static int at(int[] numbers, int k) {
        return k < numbers.length ? numbers[k] : 0;
    }
}
