/** Compares answers with what is due, and tells every one that differs. */
final class Expect {
    interface Call {
        void make();
    }

    interface Answer {
        Object get();
    }

    private final String test;
    private String sentence = "";
    private int wrong;

    Expect(String test) {
        this.test = test;
    }

    /** What follows tests this sentence of the document; what differs is told with it. */
    void sentence(String words) {
        sentence = " \"" + words + "\":";
    }

    void same(String what, long got, long due) {
        if (got != due) {
            tell(what, String.valueOf(got), String.valueOf(due));
        }
    }

    void same(String what, boolean got, boolean due) {
        if (got != due) {
            tell(what, String.valueOf(got), String.valueOf(due));
        }
    }

    void same(String what, String got, String due) {
        if (!got.equals(due)) {
            tell(what, got, due);
        }
    }

    void badArgument(String what, Call call) {
        same(what, outcome(call), "throws.IllegalArgumentException");
    }

    void badState(String what, Call call) {
        same(what, outcome(call), "throws.IllegalStateException");
    }

    /** The exact class counts: a subclass that the Java machine throws is no answer. */
    static String outcome(Call call) {
        try {
            call.make();
            return "answers";
        } catch (RuntimeException e) {
            return "throws." + e.getClass().getSimpleName();
        }
    }

    /** What a call answers or throws, as text. */
    static String answer(Answer call) {
        try {
            return String.valueOf(call.get());
        } catch (RuntimeException e) {
            return "throws." + e.getClass().getSimpleName();
        }
    }

    void end() {
        System.out.println(test + ": " + (wrong == 0 ? "all as due" : wrong + " not as due"));
        if (wrong != 0) {
            System.exit(1);
        }
    }

    private void tell(String what, String got, String due) {
        wrong++;
        System.out.println(test + ":" + sentence + " " + what + " answered " + got + ", due is " + due);
    }
}
