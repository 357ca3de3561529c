/** Promise 4: fault, and what a taking looks at. */
final class FaultTest {
    public static void main(String[] args) {
        Expect expect = new Expect("FaultTest");
        answersAndRefuses(expect);
        registersInNumbers(expect);
        otherNumbers(expect);
        frameNumbers(expect);
        registersInGroups(expect);
        predicatesInGroups(expect);
        groupsThatAreOver(expect);
        lastInstruction(expect);
        firstFaultCounts(expect);
        eachDraftIsForItself(expect);
        expect.end();
    }

    private static void answersAndRefuses(Expect expect) {
        PredicateMachine machine = new PredicateMachine();
        expect.same("an empty draft", new Code(machine).faultFound(), "4 at -1");
        expect.same("a good draft", new Code(machine).line(Code.END).faultFound(), "0 at -1");
        new Code(machine).line(Code.NOTHING);
        expect.same("not before it is taken", machine.fault(0), 0);
        expect.same("a wrong one", new Code(machine).faultFound(), "3 at 0");
        expect.same("a good draft again", new Code(machine).line(Code.END).faultFound(), "0 at -1");
        int[] wrong = {-1, 2, Integer.MIN_VALUE, Integer.MAX_VALUE};
        for (int what : wrong) {
            expect.badArgument("fault " + what, () -> machine.fault(what));
        }
    }

    private static void number(Expect expect, boolean good, int operation, int... numbers) {
        String what = "operation " + operation + java.util.Arrays.toString(numbers);
        Code code = Code.fresh().line(Code.NOTHING).line(operation, numbers).line(Code.END);
        expect.same(what, code.faultFound(), good ? "0 at -1" : "1 at 1");
    }

    private static void registersInNumbers(Expect expect) {
        int[] outside = {-1, 32, Integer.MIN_VALUE, Integer.MAX_VALUE};
        int[] calculating = {Code.ADD, Code.SUBTRACT, Code.MULTIPLY, Code.AND};
        for (int operation : calculating) {
            writtenThenRead(expect, operation);
            number(expect, true, operation, 1, 1, 31);
            number(expect, true, operation, 1, 1, 0);
            for (int wrong : outside) {
                number(expect, false, operation, 1, 1, wrong);
            }
        }
        int[] bringing = {Code.LOAD, Code.ADVANCE, Code.BRING};
        for (int operation : bringing) {
            writtenThenRead(expect, operation);
            number(expect, true, operation, 1, 2, 99);
        }
        int[] storing = {Code.STORE, Code.KEEP};
        for (int operation : storing) {
            number(expect, true, operation, 0, 0, -5);
            number(expect, true, operation, 31, 31, 99);
            for (int wrong : outside) {
                number(expect, false, operation, wrong, 1, 0);
                number(expect, false, operation, 1, wrong, 0);
            }
        }
        int[] comparing = {Code.LESS, Code.SAME};
        for (int operation : comparing) {
            number(expect, true, operation, 1, 0, 31);
            number(expect, true, operation, 14, 31, 0);
            number(expect, false, operation, 0, 1, 1);
            number(expect, false, operation, 15, 1, 1);
            for (int wrong : outside) {
                number(expect, false, operation, wrong, 1, 1);
                number(expect, false, operation, 1, wrong, 1);
                number(expect, false, operation, 1, 1, wrong);
            }
        }
    }

    private static void writtenThenRead(Expect expect, int operation) {
        number(expect, true, operation, 1, 0, 1);
        number(expect, true, operation, 31, 31, 1);
        number(expect, false, operation, 0, 1, 1);
        int[] outside = {-1, 32, Integer.MIN_VALUE, Integer.MAX_VALUE};
        for (int wrong : outside) {
            number(expect, false, operation, wrong, 1, 1);
            number(expect, false, operation, 1, wrong, 1);
        }
    }

    private static void otherNumbers(Expect expect) {
        number(expect, true, Code.SET, 1, Integer.MIN_VALUE, Integer.MAX_VALUE);
        number(expect, true, Code.SET, 31, 40, -1);
        number(expect, false, Code.SET, 0, 1);
        number(expect, false, Code.SET, 32, 1);
        number(expect, false, Code.SET, -1, 1);
        number(expect, true, Code.NOTHING, -1, 99, 99);
        number(expect, true, Code.RETURN, -1, 99, 99);
        number(expect, true, Code.END, -1, 99, 99);
        int[] jumping = {Code.BRANCH, Code.CALL, Code.TURN};
        for (int operation : jumping) {
            number(expect, true, operation, 0, -1, 99);
            number(expect, true, operation, 2, 99, -1);
            number(expect, false, operation, 3, 0, 0);
            number(expect, false, operation, -1, 0, 0);
            number(expect, false, operation, Integer.MIN_VALUE, 0, 0);
        }
        number(expect, true, Code.CHECK, 0, 0, 99);
        number(expect, true, Code.CHECK, 31, 2, -1);
        number(expect, false, Code.CHECK, 32, 0);
        number(expect, false, Code.CHECK, -1, 0);
        number(expect, false, Code.CHECK, 1, 3);
        number(expect, false, Code.CHECK, 1, -1);
        number(expect, true, Code.COUNT, 0, 20, 99);
        number(expect, true, Code.COUNT, 20, 0, -1);
        number(expect, false, Code.COUNT, 21, 0);
        number(expect, false, Code.COUNT, 0, 21);
        number(expect, false, Code.COUNT, -1, 0);
        number(expect, false, Code.COUNT, 0, -1);
    }

    private static void frameNumbers(Expect expect) {
        number(expect, true, Code.FRAME, 0, 0, 0);
        number(expect, true, Code.FRAME, 24, 24, 16);
        number(expect, true, Code.FRAME, 8, 8, 8);
        number(expect, true, Code.FRAME, 16, 0, 16);
        number(expect, true, Code.FRAME, 9, 9, 0);
        number(expect, false, Code.FRAME, 25, 0, 0);
        number(expect, false, Code.FRAME, -1, 0, 0);
        number(expect, false, Code.FRAME, 5, 6, 0);
        number(expect, false, Code.FRAME, 5, -1, 0);
        number(expect, false, Code.FRAME, 7, 0, 8);
        number(expect, false, Code.FRAME, 15, 0, 16);
        number(expect, false, Code.FRAME, 24, 0, 24);
        number(expect, false, Code.FRAME, 24, 0, 1);
        number(expect, false, Code.FRAME, 24, 0, -8);
    }

    private static void group(Expect expect, String what, Code code, boolean good) {
        expect.same(what, code.line(Code.END).faultFound(), good ? "0 at -1" : "2 at 1");
    }

    private static Code writing(int register) {
        return Code.fresh().open(Code.SET, register, 1);
    }

    private static void registersInGroups(Expect expect) {
        group(expect, "ADD reads b", writing(31).line(Code.ADD, 2, 31, 3), false);
        group(expect, "ADD reads c", writing(31).line(Code.AND, 2, 3, 31), false);
        group(expect, "ADD writes a", writing(31).line(Code.MULTIPLY, 31, 2, 3), false);
        group(expect, "SET writes a", writing(1).line(Code.SET, 1, 1), false);
        group(expect, "SET's b is no register", writing(1).line(Code.SET, 2, 1), true);
        group(expect, "others", writing(1).line(Code.SUBTRACT, 2, 3, 4), true);
        group(expect, "LESS reads b", writing(1).line(Code.LESS, 1, 1, 2), false);
        group(expect, "SAME reads c", writing(1).line(Code.SAME, 1, 2, 1), false);
        group(expect, "LESS's a is no register", writing(1).line(Code.LESS, 1, 2, 2), true);
        group(expect, "LOAD reads b", writing(1).line(Code.LOAD, 2, 1), false);
        group(expect, "LOAD writes a", writing(1).line(Code.LOAD, 1, 2), false);
        group(expect, "LOAD's c is free", writing(1).line(Code.LOAD, 2, 3, 1), true);
        group(expect, "ADVANCE reads b", writing(1).line(Code.ADVANCE, 2, 1), false);
        group(expect, "BRING writes a", writing(1).line(Code.BRING, 1, 2), false);
        group(expect, "STORE reads a", writing(1).line(Code.STORE, 1, 2), false);
        group(expect, "STORE reads b", writing(1).line(Code.STORE, 2, 1), false);
        group(expect, "KEEP reads a", writing(1).line(Code.KEEP, 1, 2), false);
        group(expect, "KEEP reads b", writing(1).line(Code.KEEP, 2, 1), false);
        group(expect, "CHECK reads a", writing(1).line(Code.CHECK, 1, 0), false);
        group(expect, "CHECK's b is no register", writing(1).line(Code.CHECK, 2, 1), true);
        group(expect, "BRANCH's a is no register", writing(1).line(Code.BRANCH, 1), true);
        group(expect, "what is only read",
                Code.fresh().open(Code.STORE, 1, 2).line(Code.ADD, 1, 2, 2), true);
        group(expect, "written behind reading",
                Code.fresh().open(Code.ADD, 3, 1, 2).line(Code.SET, 1, 1), true);
        group(expect, "a false one's writing",
                Code.fresh().openWhen(5, Code.SET, 1, 1).line(Code.ADD, 2, 1, 1), false);
        group(expect, "its own writing", Code.fresh().open(Code.ADD, 1, 1, 1)
                .line(Code.NOTHING), true);
        group(expect, "a new group", Code.fresh().line(Code.SET, 1, 1).line(Code.ADD, 1, 1, 1), true);
        Code far = writing(1).open(Code.NOTHING).open(Code.SET, 2, 2).line(Code.ADD, 3, 0, 1);
        expect.same("two behind", far.line(Code.END).faultFound(), "2 at 3");
    }

    private static void predicatesInGroups(Expect expect) {
        for (int written = 1; written <= 14; written++) {
            group(expect, "Q of LESS", Code.fresh().open(Code.LESS, written, 1, 1)
                    .when(written, Code.NOTHING), false);
            group(expect, "Q of SAME's second", Code.fresh().open(Code.SAME, written, 1, 1)
                    .when(written + 1, Code.NOTHING), false);
            group(expect, "Q below", Code.fresh().open(Code.SAME, written, 1, 1)
                    .when(written - 1, Code.NOTHING), true);
        }
        group(expect, "Q above", Code.fresh().open(Code.LESS, 3, 1, 1).when(5, Code.END), true);
        group(expect, "the first again",
                Code.fresh().open(Code.LESS, 3, 1, 1).line(Code.SAME, 3, 1, 1), false);
        group(expect, "the second again",
                Code.fresh().open(Code.LESS, 3, 1, 1).line(Code.SAME, 4, 1, 1), false);
        group(expect, "the second on the first",
                Code.fresh().open(Code.LESS, 3, 1, 1).line(Code.SAME, 2, 1, 1), false);
        group(expect, "apart", Code.fresh().open(Code.LESS, 3, 1, 1).line(Code.SAME, 5, 1, 1), true);
        group(expect, "a TURN's predicate 8",
                Code.fresh().open(Code.LESS, 8, 1, 1).line(Code.TURN, 0), true);
        group(expect, "a TURN's Q",
                Code.fresh().open(Code.LESS, 8, 1, 1).when(8, Code.TURN, 0), false);
        group(expect, "its own Q", Code.fresh().openWhen(3, Code.LESS, 3, 1, 1)
                .line(Code.NOTHING), true);
        group(expect, "a new group",
                Code.fresh().line(Code.LESS, 3, 1, 1).when(3, Code.SAME, 3, 1, 1), true);
    }

    private static void groupsThatAreOver(Expect expect) {
        for (int operation = 0; operation <= 20; operation++) {
            boolean over = operation >= Code.CALL && operation <= Code.TURN;
            Code code = Code.fresh().open(operation, 1, 1, 0).line(Code.NOTHING);
            group(expect, "behind operation " + operation, code, !over);
        }
        group(expect, "behind one that may be false",
                Code.fresh().openWhen(7, Code.RETURN).line(Code.NOTHING), false);
        group(expect, "before one", Code.fresh().open(Code.NOTHING).line(Code.COUNT, 1, 1), true);
        Code last = Code.fresh().line(Code.NOTHING).open(Code.COUNT, 1, 1).line(Code.END);
        expect.same("the last behind a COUNT", last.faultFound(), "2 at 2");
    }

    private static void lastInstruction(Expect expect) {
        for (int operation = 0; operation <= 20; operation++) {
            boolean good = operation == Code.BRANCH || operation == Code.RETURN
                    || operation == Code.END;
            Code code = Code.fresh().line(Code.NOTHING).line(operation, 1, 1, 0);
            expect.same("last " + operation, code.faultFound(), good ? "0 at -1" : "3 at 1");
        }
        expect.same("no stop", Code.fresh().open(Code.END).faultFound(), "3 at 0");
        expect.same("a Q", Code.fresh().when(1, Code.END).faultFound(), "3 at 0");
        expect.same("a Q of RETURN", Code.fresh().when(15, Code.RETURN).faultFound(), "3 at 0");
        expect.same("a Q of BRANCH", Code.fresh().when(8, Code.BRANCH, 0).faultFound(), "3 at 0");
        expect.same("in the middle",
                Code.fresh().when(1, Code.END).open(Code.RETURN).faultFound(), "3 at 1");
    }

    // What a refused draft had written in its last group must not count for the next draft.
    private static void eachDraftIsForItself(Expect expect) {
        PredicateMachine machine = new PredicateMachine();
        String refused = new Code(machine).open(Code.SET, 1, 1).line(Code.SET, 1, 1).faultFound();
        expect.same("a register twice", refused, "2 at 1");
        Code code = new Code(machine).line(Code.ADD, 2, 1, 1).line(Code.END);
        expect.same("the register anew", code.faultFound(), "0 at -1");
        refused = new Code(machine).open(Code.LESS, 1, 1, 1).when(1, Code.END).faultFound();
        expect.same("a predicate twice", refused, "2 at 1");
        code = new Code(machine).when(1, Code.NOTHING).line(Code.END);
        expect.same("the predicate anew", code.faultFound(), "0 at -1");
        refused = new Code(machine).open(Code.COUNT, 1, 1).line(Code.END).faultFound();
        expect.same("behind a COUNT", refused, "2 at 1");
        expect.same("a group anew", new Code(machine).line(Code.END).faultFound(), "0 at -1");
        machine.instruction(Code.NOTHING, 0, 0, 0, 0, true);
        new Code(machine).line(Code.NOTHING).line(Code.END);
        expect.same("its own groups alone", machine.take(), 3);
    }

    private static void firstFaultCounts(Expect expect) {
        Code code = Code.fresh().line(Code.NOTHING).open(Code.SET, 1, 1);
        code.open(Code.SET, 1, 1).line(Code.SET, 0, 0);
        expect.same("2 before 1 and 3", code.faultFound(), "2 at 2");
        expect.same("1 before 2 in one", writing(1).line(Code.ADD, 1, 1, 32).line(Code.END)
                .faultFound(), "1 at 1");
        expect.same("1 before 3 in one", Code.fresh().line(Code.SET, 0, 0).faultFound(), "1 at 0");
        expect.same("2 before 3 in one", writing(1).line(Code.SET, 1, 0).faultFound(), "2 at 1");
        expect.same("1 before a later 3",
                Code.fresh().line(Code.BRANCH, 2).open(Code.END).faultFound(), "1 at 0");
    }
}
