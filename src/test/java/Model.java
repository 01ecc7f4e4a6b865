import java.util.ArrayList;
import java.util.Arrays;
import java.util.List;

/** A plain model of judging, written from the document alone, by signatures instead of by cases. */
final class Model {
    static final int BAD = -1, NONE = -99999999;

    /** What each op pops (top last) and pushes; null: told apart below. */
    private static final String[] SIGNATURES = {
        ":I", ":J", ":N", null, null, null, null, "II:I", "JJ:J", "I:J", "J:I", "JJ:I", null, null,
        "I:[", null, null, "[I:I", "[II:", null, null, null, "R:I", "A:I", "AI:", "A:I", null, null, null,
        ":", "I:", "R:", "I:", null, "I:"};

    static final class Instr {
        final int op;
        final long a;

        Instr(int op, long a) {
            this.op = op;
            this.a = a;
        }
    }

    static final class Handler {
        final int from, to, at, what;

        Handler(int from, int to, int at, int what) {
            this.from = from;
            this.to = to;
            this.at = at;
            this.what = what;
        }
    }

    static final class State {
        final int[] locals = new int[8];
        final List<Integer> stack = new ArrayList<>();

        State copy() {
            State s = new State();
            System.arraycopy(locals, 0, s.locals, 0, 8);
            s.stack.addAll(stack);
            return s;
        }

        int size() {
            return 8 + stack.size();
        }

        int get(int place) {
            return place < 8 ? locals[place] : stack.get(place - 8);
        }

        void set(int place, int kind) {
            if (place < 8) {
                locals[place] = kind;
            } else {
                stack.set(place - 8, kind);
            }
        }

        boolean goesTo(State other) {
            boolean fine = size() == other.size();
            for (int i = 0; fine && i < size(); i++) {
                fine = goes(get(i), other.get(i));
            }
            return fine;
        }
    }

    static final class Method {
        int params;
        final List<Instr> code = new ArrayList<>();
        final List<Handler> handlers = new ArrayList<>();
        final State[] frames = new State[40];

        Method copy() {
            Method m = new Method();
            m.params = params;
            m.code.addAll(code);
            m.handlers.addAll(handlers);
            for (int i = 0; i < 40; i++) {
                m.frames[i] = frames[i] == null ? null : frames[i].copy();
            }
            return m;
        }
    }

    final List<Method> methods;
    State[] ahead = new State[40];
    int rounds;
    private int leads;

    Model(List<Method> methods) {
        this.methods = methods;
    }

    static boolean object(int k) {
        return k >= 10 && k <= 17;
    }

    static boolean row(int k) {
        return k >= 21 && k <= 25;
    }

    private static Class<?> javaClass(int c) {
        return ModelRun.CLASSES[c];
    }

    /** Java's own word on it. */
    static boolean under(int c, int d) {
        return javaClass(d).isAssignableFrom(javaClass(c)) || d == 0;
    }

    static boolean goes(int x, int y) {
        boolean array = x == 5 || row(x);
        return x == y || y == 0
            || x == 4 && (y == 5 || object(y) || row(y))
            || object(x) && object(y) && (y >= 16 || under(x - 10, y - 10))
            || array && (y == 10 || y == 16 || y == 17)
            || row(x) && row(y) && under(x - 20, y - 20);
    }

    static int join(int x, int y) {
        boolean xs = x == 5 || object(x) || row(x);
        boolean ys = y == 5 || object(y) || row(y);
        if (x == y) {
            return x;
        }
        if (x == 4 && ys || y == 4 && xs) {
            return Math.max(x, y);
        }
        if (object(x) && object(y) || row(x) && row(y)) {
            int base = x / 10 * 10;
            Class<?> up = javaClass(x % 10);
            while (up != null && !up.isInterface()) {
                for (int c = 0; c <= 5; c++) {
                    if (javaClass(c) == up && under(y % 10, c)) {
                        return base + c;
                    }
                }
                up = up.getSuperclass();
            }
            return 10;
        }
        return xs && ys ? 10 : 0;
    }

    private static boolean onePlace(int k) {
        return k == 1 || k == 4 || k == 5 || object(k) || row(k) || k >= 100;
    }

    private State start(Method m) {
        State s = new State();
        Arrays.fill(s.locals, 0, m.params, 1);
        return s;
    }

    private boolean pops(State s, String what) {
        for (int i = what.length() - 1; i >= 0; i--) {
            char c = what.charAt(i);
            int[] told = c == 'J' ? new int[] {3, 2} : new int[] {c == 'I' ? 1 : c == '[' ? 5 : c == 'R' ? 10 : 11};
            for (int k : told) {
                if (s.stack.isEmpty() || !goes(s.stack.remove(s.stack.size() - 1), k)) {
                    return false;
                }
            }
        }
        return true;
    }

    private void pushes(State s, String what) {
        for (char c : what.toCharArray()) {
            s.stack.add(c == 'I' ? 1 : c == 'J' ? 2 : c == 'N' ? 4 : 5);
            if (c == 'J') {
                s.stack.add(3);
            }
        }
    }

    private static int top(State s) {
        return s.stack.isEmpty() ? 0 : s.stack.get(s.stack.size() - 1);
    }

    private static int take(State s) {
        return s.stack.isEmpty() ? 0 : s.stack.remove(s.stack.size() - 1);
    }

    /** Whether the instruction is right; s becomes what it leaves. */
    private boolean step(Method m, int number, int i, State s) {
        Instr in = m.code.get(i);
        long a = in.a;
        leads = -1;
        if (in.op < 0 || in.op > 34 || !isAFine(m, number, in)) {
            return false;
        }
        if (in.op >= 29 && in.op <= 31) {
            leads = (int) a;
        }
        boolean fine;
        if (SIGNATURES[in.op] != null) {
            String[] both = SIGNATURES[in.op].split(":", -1);
            fine = pops(s, both[0]);
            pushes(s, both[1]);
        } else {
            fine = special(m, i, in, s);
        }
        return fine && s.stack.size() <= 8;
    }

    private boolean isAFine(Method m, int number, Instr in) {
        long a = in.a;
        switch (in.op) {
            case 3: case 4:
                return a >= 0 && a <= 7;
            case 5: case 6:
                return a >= 0 && a <= 6;
            case 7: case 8:
                return a >= 0 && a <= 4;
            case 12: case 13: case 15:
                return a >= 1 && a <= 5;
            case 21: case 22:
                return a >= 0 && a <= 7;
            case 29: case 30: case 31:
                return a >= 0 && a < m.code.size();
            case 33:
                return a >= 0 && a < number;
            default:
                return true;
        }
    }

    /** A local is about to be written over: the pairs before and behind it, if one is a LONG's, are lost. */
    private static void lose(State s, int local) {
        boolean pairBefore = local > 0 && (s.locals[local - 1] == 2 || s.locals[local] == 3);
        boolean pairBehind = local < 7 && (s.locals[local] == 2 || s.locals[local + 1] == 3);
        if (pairBefore) {
            s.locals[local - 1] = 0;
        }
        if (pairBehind) {
            s.locals[local + 1] = 0;
        }
    }

    private boolean special(Method m, int i, Instr in, State s) {
        int a = (int) in.a;
        int k;
        switch (in.op) {
            case 3:
                s.stack.add(s.locals[a]);
                return onePlace(s.locals[a]);
            case 4:
                k = take(s);
                lose(s, a);
                s.locals[a] = k;
                return onePlace(k);
            case 5:
                pushes(s, "J");
                return s.locals[a] == 2 && s.locals[a + 1] == 3;
            case 6:
                if (!pops(s, "J")) {
                    return false;
                }
                lose(s, a);
                lose(s, a + 1);
                s.locals[a] = 2;
                s.locals[a + 1] = 3;
                return true;
            case 12:
                if (s.stack.contains(100 + i)) {
                    return false;
                }
                rename(s, 100 + i, 0);
                s.stack.add(100 + i);
                return true;
            case 13:
                k = take(s);
                if (k < 100 || k - 100 >= m.code.size()) {
                    return false;
                }
                rename(s, k, 10 + a);
                return m.code.get(k - 100).op == 12 && m.code.get(k - 100).a == in.a;
            case 15:
                return pops(s, "I") && s.stack.add(20 + a);
            case 16:
                k = take(s);
                return (k == 4 || k == 5 || row(k)) && s.stack.add(1);
            case 19:
                if (!pops(s, "I")) {
                    return false;
                }
                k = take(s);
                return (k == 4 || row(k)) && s.stack.add(k == 4 ? 4 : k - 10);
            case 20:
                if (!pops(s, "IR")) {
                    return false;
                }
                k = take(s);
                return k == 4 || row(k);
            case 21:
                return pops(s, "R") && s.stack.add(10 + a);
            case 26:
                s.stack.add(top(s));
                return onePlace(top(s));
            case 27:
                return onePlace(take(s));
            case 28:
                k = take(s);
                int lower = take(s);
                s.stack.add(k);
                s.stack.add(lower);
                return onePlace(k) && onePlace(lower);
            default:
                boolean fine = pops(s, "IIII".substring(0, methods.get(a).params));
                return fine && s.stack.add(1);
        }
    }

    private static void rename(State s, int kind, int by) {
        for (int p = 0; p < s.size(); p++) {
            if (s.get(p) == kind) {
                s.set(p, by);
            }
        }
    }

    private static boolean falls(int op) {
        return op != 29 && op != 32 && op != 34;
    }

    private static State caught(State s) {
        State c = s.copy();
        c.stack.clear();
        c.stack.add(1);
        return c;
    }

    int judge(int number) {
        Method m = methods.get(number);
        ahead = new State[40];
        State now = start(m);
        for (int i = 0; i < m.code.size(); i++) {
            State f = m.frames[i];
            if (now == null && f == null || now != null && f != null && !now.goesTo(f)) {
                return i + 1;
            }
            State in = f == null ? now : f;
            ahead[i] = in.copy();
            State out = in.copy();
            if (!step(m, number, i, out) || leads >= 0 && !(m.frames[leads] != null && out.goesTo(m.frames[leads]))) {
                return i + 1;
            }
            for (Handler h : m.handlers) {
                boolean covers = h.from <= i && i < h.to;
                if (covers && (h.at >= m.code.size() || m.frames[h.at] == null || !caught(in).goesTo(m.frames[h.at]))) {
                    return i + 1;
                }
            }
            now = falls(m.code.get(i).op) ? out : null;
        }
        return now == null ? 0 : m.code.size() + 1;
    }

    private boolean changed;

    private boolean comes(Method m, int to, State s) {
        if (to >= m.code.size()) {
            return false;
        }
        if (ahead[to] == null) {
            ahead[to] = s.copy();
            changed = true;
            return true;
        }
        if (ahead[to].size() != s.size()) {
            return false;
        }
        for (int p = 0; p < s.size(); p++) {
            int joined = join(ahead[to].get(p), s.get(p));
            changed |= joined != ahead[to].get(p);
            ahead[to].set(p, joined);
        }
        return true;
    }

    int join(int number) {
        Method m = methods.get(number);
        ahead = new State[40];
        rounds = 0;
        if (!comes(m, 0, start(m))) {
            return 1;
        }
        do {
            changed = false;
            rounds++;
            for (int i = 0; i < m.code.size(); i++) {
                if (ahead[i] != null && !leaves(m, number, i)) {
                    return i + 1;
                }
            }
        } while (changed);
        return 0;
    }

    private boolean leaves(Method m, int number, int i) {
        State in = ahead[i].copy();
        State out = in.copy();
        if (!step(m, number, i, out)) {
            return false;
        }
        int to = leads;
        boolean fine = !falls(m.code.get(i).op) || comes(m, i + 1, out);
        fine = fine && (to < 0 || comes(m, to, out));
        for (Handler h : m.handlers) {
            boolean covers = h.from <= i && i < h.to;
            fine = fine && (!covers || comes(m, h.at, caught(in)));
        }
        return fine;
    }

    int kind(int number, int at, int place) {
        boolean there = at >= 0 && at < methods.get(number).code.size() && ahead[at] != null;
        return there && place >= 0 && place < ahead[at].size() ? ahead[at].get(place) : NONE;
    }
}
