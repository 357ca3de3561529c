/** The bounds that the document's terms name for taking a program. */
final class BoundsOfTakingTest {
    private static final int LOW = Integer.MIN_VALUE;
    private static final int HIGH = Integer.MAX_VALUE;
    private static final String GOOD = "0 at -1";

    // For each operation what its numbers are: w written, r read, p predicates, t an instruction,
    // - anything. FRAME and COUNT are looked at apart.
    private static final String[] NUMBERS = {
        "---", "w--", "wrr", "wrr", "wrr", "wrr", "prr", "prr", "wr-", "wr-", "rr-", "rr-", "wr-",
        "rt-", "t--", "t--", "---", "---", "---", "t--", "---"
    };

    public static void main(String[] args) {
        Expect expect = new Expect("BoundsOfTakingTest");
        readRegisters(expect);
        writtenRegisters(expect);
        comparedPredicates(expect);
        targets(expect);
        targetsOfLongAndShort(expect);
        freeNumbers(expect);
        frames(expect);
        counts(expect);
        readsWhatWasWritten(expect);
        writesWhatWasWritten(expect);
        readsPredicates(expect);
        writesPredicates(expect);
        byTheirNumbers(expect);
        turnsPredicateEight(expect);
        behindTheLastOfAGroup(expect);
        groupsOfTheNextDraft(expect);
        lastOnes(expect);
        lastOfForty(expect);
        firstInOrder(expect);
        expect.end();
    }

    // The operation stands between two others, so that 0, 1 and 2 are instructions.
    private static String found(int operation, int[] numbers) {
        return Code.fresh().line(Code.NOTHING).line(operation, numbers).line(Code.END).faultFound();
    }

    private static int[] goodNumbers(int operation) {
        int[] numbers = {1, 1, 1};
        if (operation == Code.FRAME) {
            numbers[2] = 0;
        }
        return numbers;
    }

    // Each number that is of this kind, in each operation, with the bounds on both sides.
    private static void bounds(Expect expect, char kind, int lowest, int highest) {
        int[] outside = {lowest - 1, highest + 1, LOW, HIGH};
        for (int operation = 0; operation < NUMBERS.length; operation++) {
            for (int k = 0; k < 3; k++) {
                if (NUMBERS[operation].charAt(k) != kind) {
                    continue;
                }
                String what = "operation " + operation + ", number " + k + ": ";
                int[] numbers = goodNumbers(operation);
                for (int number = lowest; number <= highest; number++) {
                    numbers[k] = number;
                    expect.same(what + number, found(operation, numbers), GOOD);
                }
                for (int number : outside) {
                    numbers[k] = number;
                    expect.same(what + number, found(operation, numbers), "1 at 1");
                }
            }
        }
    }

    private static void readRegisters(Expect expect) {
        expect.sentence("a, b, c as registers not 0 .. 31 (for what is written also not 0)");
        bounds(expect, 'r', 0, 31);
    }

    private static void writtenRegisters(Expect expect) {
        expect.sentence("a, b, c as registers not 0 .. 31 (for what is written also not 0)");
        bounds(expect, 'w', 1, 31);
    }

    private static void comparedPredicates(Expect expect) {
        expect.sentence("for predicates a not 1 .. 14");
        bounds(expect, 'p', 1, 14);
    }

    private static void targets(Expect expect) {
        expect.sentence("b of CHECK, a of BRANCH, CALL, TURN no instruction");
        bounds(expect, 't', 0, 2);
    }

    private static void targetsOfLongAndShort(Expect expect) {
        expect.sentence("b of CHECK, a of BRANCH, CALL, TURN no instruction");
        expect.same("the only one", Code.fresh().line(Code.BRANCH, 0).faultFound(), GOOD);
        expect.same("behind the only one", Code.fresh().line(Code.BRANCH, 1).faultFound(), "1 at 0");
        int[] operations = {Code.CHECK, Code.BRANCH, Code.CALL, Code.TURN};
        for (int operation : operations) {
            for (int target = 39; target <= 40; target++) {
                Code code = Code.fresh();
                for (int i = 0; i < 38; i++) {
                    code.line(Code.NOTHING);
                }
                int[] numbers = operation == Code.CHECK ? new int[] {1, target} : new int[] {target};
                String found = code.line(operation, numbers).line(Code.END).faultFound();
                expect.same(operation + " to " + target + " of forty", found, target == 39 ? GOOD : "1 at 38");
            }
        }
    }

    private static void freeNumbers(Expect expect) {
        expect.sentence("1 a number is not as said");
        int[] anything = {LOW, -1, 0, 31, 32, 99, HIGH};
        for (int operation = 0; operation < NUMBERS.length; operation++) {
            for (int k = 0; k < 3; k++) {
                boolean said = operation == Code.FRAME || (operation == Code.COUNT && k < 2);
                if (NUMBERS[operation].charAt(k) != '-' || said) {
                    continue;
                }
                for (int number : anything) {
                    int[] numbers = goodNumbers(operation);
                    numbers[k] = number;
                    String what = "nothing is said of number " + k + " of " + operation + ": " + number;
                    expect.same(what, found(operation, numbers), GOOD);
                }
            }
        }
    }

    private static void frames(Expect expect) {
        expect.sentence("FRAME with a not 0 .. 24, b not 0 .. a, c not 0, 8 or 16, or above a");
        int[] turns = {LOW, -16, -8, -1, 0, 1, 4, 7, 8, 9, 12, 15, 16, 17, 24, 32, HIGH};
        for (int size = -1; size <= 25; size++) {
            for (int outs = -1; outs <= size + 1; outs++) {
                boolean good = size >= 0 && size <= 24 && outs >= 0 && outs <= size;
                int[] numbers = {size, outs, 0};
                expect.same("FRAME " + size + " " + outs + " 0", found(Code.FRAME, numbers), good ? GOOD : "1 at 1");
            }
            for (int turn : turns) {
                boolean known = turn == 0 || turn == 8 || turn == 16;
                boolean good = size >= 0 && size <= 24 && known && turn <= size;
                int[] numbers = {size, 0, turn};
                expect.same("FRAME " + size + " 0 " + turn, found(Code.FRAME, numbers), good ? GOOD : "1 at 1");
            }
        }
        int[][] far = {{LOW, 0, 0}, {HIGH, 0, 0}, {24, LOW, 0}, {24, HIGH, 0}, {LOW, LOW, 0}, {HIGH, HIGH, 0}};
        for (int[] numbers : far) {
            expect.same("far outside", found(Code.FRAME, numbers), "1 at 1");
        }
    }

    private static void counts(Expect expect) {
        expect.sentence("COUNT with a or b not 0 .. 20");
        int[] counts = {LOW, -1, 0, 1, 19, 20, 21, HIGH};
        for (int loops : counts) {
            for (int ends : counts) {
                boolean good = loops >= 0 && loops <= 20 && ends >= 0 && ends <= 20;
                int[] numbers = {loops, ends, 99};
                expect.same("COUNT " + loops + " " + ends, found(Code.COUNT, numbers), good ? GOOD : "1 at 1");
            }
        }
    }

    // The first writes the register, then some that do nothing, then the one that uses it.
    private static void inOneGroup(Expect expect, char use) {
        for (int writer = Code.SET; writer <= Code.BRING; writer++) {
            if (NUMBERS[writer].charAt(0) != 'w') {
                continue;
            }
            for (int user = 0; user < NUMBERS.length; user++) {
                for (int k = 0; k < 3; k++) {
                    if (NUMBERS[user].charAt(k) == use) {
                        used(expect, writer, user, k);
                    }
                }
            }
        }
    }

    private static void used(Expect expect, int writer, int user, int k) {
        int[] edges = {1, 7, 8, 31};
        for (int register : edges) {
            int[] writing = {register, 2, 2};
            int[] using = {3, 4, 4};
            using[k] = register;
            // Behind the four there must be as many that 4 is an instruction (of a CHECK).
            String what = writer + " writes " + register + ", number " + k + " of " + user + ": ";
            String near = Code.fresh().open(writer, writing).line(user, using)
                    .line(Code.NOTHING).line(Code.NOTHING).line(Code.END).faultFound();
            expect.same(what + "the next one", near, "2 at 1");
            String far = Code.fresh().open(writer, writing).open(Code.NOTHING).open(Code.NOTHING)
                    .open(user, using).line(Code.END).faultFound();
            expect.same(what + "three behind", far, "2 at 3");
            String apart = Code.fresh().open(writer, writing).line(Code.NOTHING).open(Code.NOTHING)
                    .line(user, using).line(Code.END).faultFound();
            expect.same(what + "behind a stop", apart, GOOD);
            using[k] = register == 1 ? 5 : register - 1;
            String other = Code.fresh().open(writer, writing).line(user, using)
                    .line(Code.NOTHING).line(Code.NOTHING).line(Code.END).faultFound();
            expect.same(what + "another register", other, GOOD);
        }
    }

    private static void readsWhatWasWritten(Expect expect) {
        expect.sentence("2 it reads a register or predicate (Q, too) that an earlier one of its group writes");
        inOneGroup(expect, 'r');
        String own = Code.fresh().line(Code.ADD, 1, 1, 1).line(Code.END).faultFound();
        expect.same("its own writing is no earlier one", own, GOOD);
        String later = Code.fresh().open(Code.ADD, 2, 1, 1).open(Code.STORE, 1, 1).line(Code.SET, 1, 1)
                .line(Code.END).faultFound();
        expect.same("read first, then written", later, GOOD);
        String zero = Code.fresh().open(Code.ADD, 1, 0, 0).line(Code.ADD, 2, 0, 0).line(Code.END).faultFound();
        expect.same("register 0 is written by none", zero, GOOD);
        String never = Code.fresh().openWhen(7, Code.SET, 1, 1).when(6, Code.CHECK, 1, 0)
                .line(Code.END).faultFound();
        expect.same("whatever their Q says", never, "2 at 1");
    }

    private static void writesWhatWasWritten(Expect expect) {
        expect.sentence("or writes one that an earlier one of the group writes");
        inOneGroup(expect, 'w');
    }

    private static void readsPredicates(Expect expect) {
        expect.sentence("2 it reads a register or predicate (Q, too) that an earlier one of its group writes");
        for (int operation = Code.LESS; operation <= Code.SAME; operation++) {
            for (int written = 1; written <= 14; written++) {
                for (int q = 0; q <= 15; q++) {
                    boolean clash = q == written || q == written + 1;
                    String what = operation + " writes " + written + ", Q " + q;
                    Code near = Code.fresh().open(operation, written, 1, 1).when(q, Code.NOTHING).line(Code.END);
                    expect.same(what, near.faultFound(), clash ? "2 at 1" : GOOD);
                    Code far = Code.fresh().open(operation, written, 1, 1).open(Code.NOTHING)
                            .when(q, Code.COUNT, 1, 1).line(Code.END);
                    expect.same(what + ", two behind", far.faultFound(), clash ? "2 at 2" : GOOD);
                    Code apart = Code.fresh().line(operation, written, 1, 1).when(q, Code.NOTHING).line(Code.END);
                    expect.same(what + ", behind a stop", apart.faultFound(), GOOD);
                    apart = Code.fresh().open(operation, written, 1, 1).line(Code.NOTHING).when(q, Code.NOTHING)
                            .line(Code.END);
                    expect.same(what + ", behind another's stop", apart.faultFound(), GOOD);
                }
            }
        }
    }

    private static void writesPredicates(Expect expect) {
        expect.sentence("LESS and SAME write two");
        for (int first = 1; first <= 14; first++) {
            for (int second = 1; second <= 14; second++) {
                boolean clash = Math.abs(first - second) <= 1;
                Code code = Code.fresh().open(Code.LESS, first, 1, 1).line(Code.SAME, second, 1, 1).line(Code.END);
                expect.same(first + " then " + second, code.faultFound(), clash ? "2 at 1" : GOOD);
                code = Code.fresh().open(Code.SAME, first, 1, 1).open(Code.NOTHING).line(Code.LESS, second, 1, 1)
                        .line(Code.END);
                expect.same(first + ", far, " + second, code.faultFound(), clash ? "2 at 2" : GOOD);
            }
            Code own = Code.fresh().when(first, Code.LESS, first, 1, 1).line(Code.END);
            expect.same("its own Q is read before", own.faultFound(), GOOD);
        }
    }

    private static void byTheirNumbers(Expect expect) {
        expect.sentence("by their numbers");
        Code code = Code.fresh().open(Code.SET, 8, 1).when(8, Code.NOTHING).line(Code.END);
        expect.same("register 8 is not predicate 8", code.faultFound(), GOOD);
        code = Code.fresh().open(Code.LESS, 8, 1, 1).line(Code.ADD, 8, 9, 9).line(Code.END);
        expect.same("predicate 8 is not register 8", code.faultFound(), GOOD);
        code = Code.fresh().open(Code.SET, 1, 9).line(Code.SET, 2, 1).line(Code.END);
        expect.same("a number is no register", code.faultFound(), GOOD);
        // Whether the frame has the registers at all does not count either.
        code = Code.fresh().line(Code.FRAME, 8, 0, 8).open(Code.SET, 8, 1).line(Code.SET, 16, 2).line(Code.END);
        expect.same("8 and 16, eight apart", code.faultFound(), GOOD);
        code = Code.fresh().open(Code.SET, 31, 1).line(Code.SET, 31, 2).line(Code.END);
        expect.same("31 twice, though it is not there", code.faultFound(), "2 at 1");
    }

    private static void turnsPredicateEight(Expect expect) {
        expect.sentence("predicate 8 of a TURN does not count");
        for (int written = 1; written <= 14; written++) {
            Code code = Code.fresh().open(Code.SAME, written, 1, 1).line(Code.TURN, 0).line(Code.END);
            expect.same("TURN behind SAME " + written, code.faultFound(), GOOD);
            boolean clash = written == 7 || written == 8;
            code = Code.fresh().open(Code.SAME, written, 1, 1).when(8, Code.TURN, 0).line(Code.END);
            expect.same("TURN with Q 8 behind SAME " + written, code.faultFound(), clash ? "2 at 1" : GOOD);
        }
        Code code = Code.fresh().openWhen(8, Code.NOTHING).line(Code.TURN, 0).line(Code.END);
        expect.same("TURN behind Q 8", code.faultFound(), GOOD);
    }

    private static void behindTheLastOfAGroup(Expect expect) {
        expect.sentence("or stands in its group behind a FRAME, COUNT, CALL, RETURN or TURN.");
        for (int first = 0; first <= 20; first++) {
            boolean over = first == Code.FRAME || first == Code.COUNT || first == Code.CALL
                    || first == Code.RETURN || first == Code.TURN;
            for (int second = 0; second <= 20; second++) {
                int[] one = {1, 1, 0};
                int[] two = {3, 2, 0};
                String what = second + " behind " + first;
                Code code = Code.fresh().open(first, one).line(second, two).line(Code.NOTHING).line(Code.END);
                expect.same(what, code.faultFound(), over ? "2 at 1" : GOOD);
                code = Code.fresh().line(first, one).line(second, two).line(Code.NOTHING).line(Code.END);
                expect.same(what + " and a stop", code.faultFound(), GOOD);
                code = Code.fresh().openWhen(15, first, one).line(second, two).line(Code.NOTHING).line(Code.END);
                expect.same(what + " with a Q", code.faultFound(), over ? "2 at 1" : GOOD);
            }
        }
        Code code = Code.fresh().open(Code.NOTHING).open(Code.NOTHING).line(Code.TURN, 0).line(Code.END);
        expect.same("as the last of its group", code.faultFound(), GOOD);
        code = Code.fresh().line(Code.NOTHING).open(Code.RETURN).open(Code.END);
        expect.same("at the last one too", code.faultFound(), "2 at 2");
    }

    // A draft that was refused in the midst of a group: the next one begins with a group of its own.
    private static void groupsOfTheNextDraft(Expect expect) {
        expect.sentence("Instructions up to a stop (and up to the end) are a GROUP.");
        PredicateMachine machine = Code.fresh().open(Code.SET, 1, 1).open(Code.SET, 2, 1).machine;
        expect.same("no end", new Code(machine).faultFound(), "3 at 1");
        expect.same("the registers", new Code(machine).line(Code.ADD, 1, 1, 2).line(Code.END).faultFound(), GOOD);
        new Code(machine).open(Code.LESS, 1, 1, 1).open(Code.NOTHING);
        expect.same("no end", new Code(machine).faultFound(), "3 at 1");
        Code code = new Code(machine).openWhen(1, Code.NOTHING).when(2, Code.LESS, 1, 1, 1).line(Code.END);
        expect.same("the predicates", code.faultFound(), GOOD);
        new Code(machine).open(Code.COUNT, 1, 1).line(Code.NOTHING);
        expect.same("behind a COUNT", new Code(machine).faultFound(), "2 at 1");
        expect.same("behind nothing", new Code(machine).line(Code.END).faultFound(), GOOD);
        new Code(machine).line(Code.NOTHING).line(Code.NOTHING);
        expect.same("two groups without an end", new Code(machine).faultFound(), "3 at 1");
        expect.same("one group", new Code(machine).line(Code.END).machine.take(), 1);
    }

    private static void lastOnes(Expect expect) {
        expect.sentence("The last instruction must have a stop and be BRANCH, RETURN or END with Q 0: fault 3, "
                + "at the last one.");
        for (int operation = 0; operation <= 20; operation++) {
            boolean leaves = operation == Code.BRANCH || operation == Code.RETURN || operation == Code.END;
            int[] numbers = {1, 1, 0};
            for (int q = 0; q <= 15; q++) {
                String due = leaves && q == 0 ? GOOD : "3 at 1";
                String what = operation + " with Q " + q;
                Code code = Code.fresh().line(Code.NOTHING).when(q, operation, numbers);
                expect.same(what, code.faultFound(), due);
                code = Code.fresh().line(Code.NOTHING).openWhen(q, operation, numbers);
                expect.same(what + " without a stop", code.faultFound(), "3 at 1");
            }
            numbers[0] = operation == Code.BRANCH ? 0 : 1;
            boolean jumps = operation == Code.CHECK || operation == Code.CALL || operation == Code.TURN;
            String due = leaves ? GOOD : jumps ? "1 at 0" : "3 at 0";
            expect.same(operation + " alone", Code.fresh().line(operation, numbers).faultFound(), due);
        }
        Code code = Code.fresh().when(3, Code.END).open(Code.END).line(Code.NOTHING).line(Code.END);
        expect.same("only the last", code.faultFound(), GOOD);
    }

    private static void lastOfForty(Expect expect) {
        expect.sentence("The last instruction must have a stop and be BRANCH, RETURN or END with Q 0: fault 3, "
                + "at the last one.");
        Code good = Code.fresh();
        Code bad = Code.fresh();
        for (int i = 0; i < 39; i++) {
            good.line(Code.NOTHING);
            bad.line(Code.END);
        }
        expect.same("an END", good.line(Code.END).faultFound(), GOOD);
        expect.same("no END", bad.line(Code.NOTHING).faultFound(), "3 at 39");
    }

    private static void firstInOrder(Expect expect) {
        expect.sentence("the first instruction, in order, with a fault");
        for (int first = 0; first <= 38; first++) {
            for (int second = first + 1; second <= 39; second += 7) {
                Code numbers = Code.fresh();
                Code groups = Code.fresh();
                for (int i = 0; i < 40; i++) {
                    boolean wrong = i == first || i == second;
                    numbers.line(wrong ? Code.SET : Code.END, 0);
                    groups.open(i == first - 1 ? Code.COUNT : i == second ? Code.SET : Code.NOTHING);
                }
                String what = first + " and " + second;
                expect.same(what, numbers.faultFound(), "1 at " + first);
                // A COUNT before the first makes it a fault of its group; the second has a wrong number.
                String due = first == 0 ? "1 at " + second : "2 at " + first;
                expect.same(what + " in one group", groups.faultFound(), due);
            }
        }
    }
}
