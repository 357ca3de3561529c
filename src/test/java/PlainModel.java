import java.util.ArrayList;
import java.util.HashSet;
import java.util.List;
import java.util.Set;
import java.util.TreeMap;

/**
 * The document told a second time, in another way than the class: every frame has its own list of
 * things, the outs are handed over and back, and which places are held is a set. Slow and plain.
 */
final class PlainModel {
    record Line(int operation, int q, int a, int b, int c, boolean stop) {
        // Which of a, b, c are registers: 'w' written, 'r' read, '-' neither.
        String uses() {
            switch (operation) {
                case Code.SET: return "w--";
                case Code.ADD: case Code.SUBTRACT: case Code.MULTIPLY: case Code.AND: return "wrr";
                case Code.LESS: case Code.SAME: return "-rr";
                case Code.LOAD: case Code.ADVANCE: case Code.BRING: return "wr-";
                case Code.STORE: case Code.KEEP: return "rr-";
                case Code.CHECK: return "r--";
                default: return "---";
            }
        }

        int number(int k) {
            return k == 0 ? a : k == 1 ? b : c;
        }

        Set<String> named(char use) {
            Set<String> names = new HashSet<>();
            for (int k = 0; k < 3; k++) {
                if (uses().charAt(k) == use) {
                    names.add("r" + number(k));
                }
            }
            if (use == 'r') {
                names.add("p" + q);
            } else if (operation == Code.LESS || operation == Code.SAME) {
                names.add("p" + a);
                names.add("p" + (a + 1));
            }
            return names;
        }
    }

    record Thing(long value, boolean nat) {
        static final Thing ZERO = new Thing(0, false);
        static final Thing NONE = new Thing(0, true);
    }

    static final class Frame {
        List<Thing> things = new ArrayList<>();
        int outs;
        int turns;
        int rotation;
        int comesBackTo;

        int own() {
            return things.size() - outs;
        }
    }

    private static final class End extends RuntimeException {
        private static final long serialVersionUID = 1;
        final int code;

        End(int code) {
            super(null, null, false, false);
            this.code = code;
        }
    }

    final List<Line> draft = new ArrayList<>();
    List<Line> program = new ArrayList<>();
    int fault = 0;
    int faultAt = -1;
    final Thing[] statics = new Thing[8];
    final Thing[] memory = new Thing[32];
    boolean[] predicates;
    List<Frame> frames;
    Set<Integer> held;
    TreeMap<Integer, Thing> backing;
    int spilled;
    int filled;
    int lowest;
    int next;
    boolean over;
    int loops;
    int ends;

    PlainModel() {
        java.util.Arrays.fill(statics, Thing.ZERO);
        java.util.Arrays.fill(memory, Thing.ZERO);
        restart();
    }

    private void restart() {
        predicates = new boolean[16];
        predicates[0] = true;
        frames = new ArrayList<>(List.of(new Frame()));
        held = new HashSet<>();
        backing = new TreeMap<>();
        spilled = filled = lowest = next = loops = ends = 0;
        over = false;
    }

    private static IllegalArgumentException wrong() {
        return new IllegalArgumentException();
    }

    int instruction(int operation, int q, int a, int b, int c, boolean stop) {
        if (operation < 0 || operation > 20 || q < 0 || q > 15) {
            throw wrong();
        }
        if (draft.size() == 40) {
            throw new IllegalStateException();
        }
        draft.add(new Line(operation, q, a, b, c, stop));
        return draft.size();
    }

    int take() {
        List<Line> taken = new ArrayList<>(draft);
        draft.clear();
        fault = taken.isEmpty() ? 4 : 0;
        faultAt = -1;
        for (int i = 0; i < taken.size() && fault == 0; i++) {
            fault = faultOf(taken, i);
            faultAt = fault == 0 ? -1 : i;
        }
        if (fault != 0) {
            throw wrong();
        }
        program = taken;
        restart();
        int groups = 0;
        for (Line line : program) {
            groups += line.stop ? 1 : 0;
        }
        return groups;
    }

    private static int faultOf(List<Line> lines, int i) {
        Line line = lines.get(i);
        if (!numbersGood(line, lines.size())) {
            return 1;
        }
        for (int j = i - 1; j >= 0 && !lines.get(j).stop; j--) {
            Line earlier = lines.get(j);
            Set<String> used = line.named('r');
            used.addAll(line.named('w'));
            used.retainAll(earlier.named('w'));
            if (!used.isEmpty() || (earlier.operation >= 15 && earlier.operation <= 19)) {
                return 2;
            }
        }
        boolean leaves = line.operation == 14 || line.operation == 16 || line.operation == 20;
        boolean last = i == lines.size() - 1;
        return last && !(leaves && line.stop && line.q == 0) ? 3 : 0;
    }

    private static boolean numbersGood(Line line, int count) {
        for (int k = 0; k < 3; k++) {
            char use = line.uses().charAt(k);
            int number = line.number(k);
            if (use != '-' && (number < 0 || number > 31 || (use == 'w' && number == 0))) {
                return false;
            }
        }
        switch (line.operation) {
            case 6: case 7: return line.a >= 1 && line.a <= 14;
            case 13: return line.b >= 0 && line.b < count;
            case 14: case 15: case 19: return line.a >= 0 && line.a < count;
            case 17: return line.a >= 0 && line.a <= 24 && line.b >= 0 && line.b <= line.a
                    && List.of(0, 8, 16).contains(line.c) && line.c <= line.a;
            case 18: return line.a >= 0 && line.a <= 20 && line.b >= 0 && line.b <= 20;
            default: return true;
        }
    }

    int fault(int what) {
        if (what != 0 && what != 1) {
            throw wrong();
        }
        return what == 0 ? fault : faultAt;
    }

    int run(int budget) {
        if (budget < 1 || budget > 500) {
            throw wrong();
        }
        if (program.isEmpty() || over) {
            throw new IllegalStateException();
        }
        try {
            for (int i = 0; i < budget; i++) {
                next = done(program.get(next));
            }
            return 5;
        } catch (End end) {
            over = end.code == 0;
            return end.code;
        }
    }

    private Frame top() {
        return frames.get(frames.size() - 1);
    }

    private int baseOf(int depth) {
        int base = 0;
        for (int i = 0; i < depth; i++) {
            base += frames.get(i).own();
        }
        return base;
    }

    private boolean exists(int register) {
        return register >= 0 && register < 8 + top().things.size();
    }

    private int index(int register) {
        int k = register - 8;
        Frame frame = top();
        return k < frame.turns ? (k + frame.rotation) % frame.turns : k;
    }

    private Thing get(int register) {
        return register < 8 ? statics[register] : top().things.get(index(register));
    }

    private void put(int register, Thing thing) {
        if (register < 8) {
            statics[register] = thing;
        } else {
            top().things.set(index(register), thing);
        }
    }

    private int predicateIndex(int predicate) {
        return predicate < 8 ? predicate : 8 + (predicate - 8 + top().rotation) % 8;
    }

    private int done(Line line) {
        if (!predicates[predicateIndex(line.q)]) {
            return next + 1;
        }
        for (int k = 0; k < 3; k++) {
            if (line.uses().charAt(k) != '-' && !exists(line.number(k))) {
                throw new End(1);
            }
        }
        boolean calculates = line.operation >= 2 && line.operation <= 7;
        Thing r = line.uses().charAt(1) == 'r' ? get(line.b) : Thing.ZERO;
        Thing s = calculates ? get(line.c) : Thing.ZERO;
        boolean nat = r.nat || s.nat;
        switch (line.operation) {
            case 1: put(line.a, new Thing(line.b, false)); break;
            case 2: put(line.a, new Thing(r.value + s.value, nat)); break;
            case 3: put(line.a, new Thing(r.value - s.value, nat)); break;
            case 4: put(line.a, new Thing(r.value * s.value, nat)); break;
            case 5: put(line.a, new Thing(r.value & s.value, nat)); break;
            case 6: decide(line.a, nat, r.value < s.value); break;
            case 7: decide(line.a, nat, r.value == s.value); break;
            case 8: put(line.a, new Thing(memory[cell(r)].value, false)); break;
            case 9: put(line.a, r.nat || r.value < 0 || r.value > 31
                    ? Thing.NONE : new Thing(memory[(int) r.value].value, false)); break;
            case 10: store(get(line.a), r, r.nat); break;
            case 11: store(get(line.a), r, false); break;
            case 12: put(line.a, memory[cell(r)]); break;
            case 13: return get(line.a).nat ? line.b : next + 1;
            case 14: return line.a;
            case 15: return call(line.a);
            case 16: return comeBack();
            case 17: frame(line); break;
            case 18: loops = line.a; ends = line.b; break;
            case 19: return turn(line.a);
            case 20: throw new End(0);
            default: break;
        }
        return next + 1;
    }

    private void decide(int predicate, boolean nat, boolean truth) {
        predicates[predicateIndex(predicate)] = !nat && truth;
        predicates[predicateIndex(predicate + 1)] = !nat && !truth;
    }

    private static int cell(Thing address) {
        if (address.nat) {
            throw new End(3);
        }
        if (address.value < 0 || address.value > 31) {
            throw new End(2);
        }
        return (int) address.value;
    }

    private void store(Thing address, Thing value, boolean refused) {
        if (refused) {
            throw new End(3);
        }
        memory[cell(address)] = value;
    }

    private int call(int target) {
        if (frames.size() == 41) {
            throw new End(4);
        }
        Frame from = top();
        from.comesBackTo = next + 1;
        Frame to = new Frame();
        to.things.addAll(from.things.subList(from.own(), from.things.size()));
        frames.add(to);
        return target;
    }

    private int comeBack() {
        if (frames.size() == 1) {
            throw new End(0);
        }
        Frame left = frames.remove(frames.size() - 1);
        Frame frame = top();
        for (int k = 0; k < frame.outs; k++) {
            Thing thing = k < left.things.size() ? left.things.get(k) : Thing.ZERO;
            frame.things.set(frame.own() + k, thing);
        }
        int base = baseOf(frames.size() - 1);
        int end = base + frame.things.size();
        int firstOut = base + frame.own();
        held.removeIf(place -> place >= end);
        for (int place = end - 1; place >= base; place--) {
            if (held.add(place) && place < firstOut) {
                filled++;
                frame.things.set(place - base, backing.get(place));
            }
        }
        settle();
        return frame.comesBackTo;
    }

    private void frame(Line line) {
        int base = baseOf(frames.size() - 1);
        if (base + line.a > 120) {
            throw new End(4);
        }
        Frame frame = top();
        while (frame.things.size() > line.a) {
            frame.things.remove(frame.things.size() - 1);
        }
        while (frame.things.size() < line.a) {
            frame.things.add(Thing.ZERO);
        }
        frame.outs = line.b;
        frame.turns = line.c;
        held.removeIf(place -> place >= base + line.a);
        for (int k = 0; k < line.a; k++) {
            held.add(base + k);
        }
        settle();
    }

    private void settle() {
        while (held.size() > 24) {
            int place = java.util.Collections.min(held);
            held.remove(place);
            backing.put(place, thingAt(place));
            spilled++;
        }
        int base = baseOf(frames.size() - 1);
        // With nothing held, the next that is held will be where the frame begins.
        lowest = held.isEmpty() ? base : java.util.Collections.min(held);
    }

    private Thing thingAt(int place) {
        for (int depth = 0; depth < frames.size(); depth++) {
            int k = place - baseOf(depth);
            boolean last = depth == frames.size() - 1;
            Frame frame = frames.get(depth);
            if (k >= 0 && k < (last ? frame.things.size() : frame.own())) {
                return frame.things.get(k);
            }
        }
        throw new IllegalStateException("the model has lost a place");
    }

    private int turn(int target) {
        if (loops == 0 && ends == 0) {
            return next + 1;
        }
        boolean looping = loops > 0;
        boolean again = looping || ends > 1;
        if (looping) {
            loops--;
        } else {
            ends--;
        }
        top().rotation = (top().rotation + 15) % 16;
        predicates[predicateIndex(8)] = looping;
        return again ? target : next + 1;
    }

    void set(int register, long value) {
        if (register < 1 || register > 7) {
            throw wrong();
        }
        statics[register] = new Thing(value, false);
    }

    Thing register(int register) {
        if (!exists(register)) {
            throw wrong();
        }
        return get(register);
    }

    boolean predicate(int predicate) {
        if (predicate < 0 || predicate > 15) {
            throw wrong();
        }
        return predicates[predicateIndex(predicate)];
    }

    long memory(int cell) {
        if (cell < 0 || cell > 31) {
            throw wrong();
        }
        return memory[cell].value;
    }

    void poke(int cell, long value) {
        if (cell < 0 || cell > 31) {
            throw wrong();
        }
        memory[cell] = new Thing(value, false);
    }

    int look(int what) {
        Frame frame = top();
        int base = baseOf(frames.size() - 1);
        int[] answers = {
            next, frame.things.size(), frame.outs, frame.turns, frame.rotation, frames.size() - 1,
            loops, ends, spilled, filled, base, lowest
        };
        if (what < 0 || what >= answers.length) {
            throw wrong();
        }
        return answers[what];
    }

    long backing(int k) {
        if (k < 0 || k > 119) {
            throw wrong();
        }
        return backing.getOrDefault(k, Thing.ZERO).value;
    }
}
