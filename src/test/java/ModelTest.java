import java.util.ArrayList;
import java.util.Arrays;
import java.util.List;

/** Made-up METHODS, judged, joined and run by the class and by the model: every answer must be the same. */
public final class ModelTest {
    private static final int PROGRAMS = 8000;
    private static long seed = 20261116;
    private static final int[] outcomes = new int[11];
    private static final int[] opsOfRight = new int[35];
    private static int rightByJoin, rightByFrames, wrongAtTheLast, compared;

    public static void main(String[] args) {
        for (int i = 0; i < PROGRAMS; i++) {
            program();
        }
        for (int how = 0; how <= 10; how++) {
            Check.due("runs that ended with " + how + ": " + outcomes[how], outcomes[how] > 20);
        }
        for (int op = 0; op < 35; op++) {
            Check.due("op " + op + " in what was found right: " + opsOfRight[op], opsOfRight[op] > 100);
        }
        Check.due("right by join: " + rightByJoin, rightByJoin > 1000);
        Check.due("right by frames: " + rightByFrames, rightByFrames > 1000);
        Check.due("WRONG at the last one by join: " + wrongAtTheLast, wrongAtTheLast > 200);
        System.out.println(compared + " compared; runs that ended with 0 .. 10: " + Arrays.toString(outcomes));
        Check.end();
    }

    private static int random(int below) {
        seed = seed * 6364136223846793005L + 1442695040888963407L;
        return (int) ((seed >>> 33) % below);
    }

    private static void program() {
        List<Model.Method> methods = new ArrayList<>();
        int many = 1 + random(3);
        for (int i = 0; i < many; i++) {
            methods.add(new Model.Method());
            grow(methods, i);
            for (int tries = random(12); tries > 0; tries--) {
                mutate(methods, i);
            }
            if (random(8) == 0) {
                cutShort(methods.get(i));
            }
            if (random(3) > 0) {
                frames(methods, i);
            }
        }
        compare(methods);
    }

    /** What is left out at the end makes the last one leave something behind it. */
    private static void cutShort(Model.Method m) {
        int left = random(4) == 0 ? random(3) : m.code.size() - 1 - random(3);
        while (m.code.size() > Math.max(0, left)) {
            m.code.remove(m.code.size() - 1);
        }
    }

    private static long someA(int op, int size, int number) {
        if (random(60) == 0) {
            return new long[] {-1, 8, 40, 1L << 32, Long.MIN_VALUE}[random(5)];
        }
        switch (op) {
            case 0:
                return random(3) == 0 ? random(40) - 5 : random(3);
            case 1:
                return random(4) == 0 ? (long) random(1 << 30) << random(34) : random(3) - 1;
            case 3: case 4:
                return random(8);
            case 5: case 6:
                return random(7);
            case 7: case 8:
                return random(5);
            case 12: case 13: case 15:
                return 1 + random(5);
            case 21: case 22:
                return random(8);
            case 29: case 30: case 31:
                return random(Math.max(1, size));
            case 33:
                return number == 0 ? 0 : random(number);
            default:
                return random(3);
        }
    }

    private static Model.Instr someInstr(int size, int number) {
        int op = random(80) == 0 ? random(50) - 8 : random(35);
        return new Model.Instr(op, someA(op, size, number));
    }

    /** Adds instructions, each one that is right behind those before it. */
    private static void grow(List<Model.Method> methods, int number) {
        Model.Method m = methods.get(number);
        m.params = random(5);
        int size = 4 + random(30);
        for (int tries = 0; tries < 600 && m.code.size() < size; tries++) {
            if (random(40) == 0 && m.code.size() < 30) {
                giveSomething(m);
                continue;
            }
            m.code.add(someInstr(m.code.size(), number));
            int at = m.code.size();
            m.code.add(new Model.Instr(29, at));
            Model model = new Model(methods);
            boolean fine = model.join(number) == 0 && model.ahead[at] != null;
            m.code.remove(at);
            if (!fine) {
                m.code.remove(at - 1);
            }
        }
        m.code.add(new Model.Instr(0, random(5)));
        m.code.add(new Model.Instr(random(3) == 0 ? 34 : 32, 0));
        for (int handlers = random(4); handlers > 0; handlers--) {
            int from = random(m.code.size());
            m.handlers.add(new Model.Handler(from, from + 1 + random(40 - from), random(m.code.size()), random(8)));
        }
        if (random(2) == 0 && !m.handlers.isEmpty()) {
            landing(m);
        }
    }

    /** What chance alone seldom finds: something is put into a ROW, fitting or not. */
    private static void giveSomething(Model.Method m) {
        int row = 1 + random(5);
        int c = 1 + random(5);
        int[][] all = {{0, 1 + random(2), 15, row, 0, random(2), 12, c, 26, 0, 13, c, 20, 0},
            {0, 1, 15, row, 0, random(2), 0, 2, 15, c, 20, 0}, {0, 2, 15, row, 0, 1, 2, 0, 20, 0}};
        int before = m.code.size();
        int[] chosen = all[random(random(2) == 0 ? 1 : 3)];
        for (int i = 0; i < chosen.length; i += 2) {
            m.code.add(new Model.Instr(chosen[i], chosen[i + 1]));
        }
        int at = m.code.size();
        m.code.add(new Model.Instr(29, at));
        List<Model.Method> alone = List.of(m);
        boolean fine = new Model(alone).join(0) == 0;
        m.code.remove(at);
        while (!fine && m.code.size() > before) {
            m.code.remove(m.code.size() - 1);
        }
    }

    /** A place where all HANDLERS can land. */
    private static void landing(Model.Method m) {
        int at = m.code.size();
        m.code.add(new Model.Instr(32, 0));
        for (int i = 0; i < m.handlers.size(); i++) {
            Model.Handler h = m.handlers.get(i);
            m.handlers.set(i, new Model.Handler(h.from, Math.min(h.to, at), at, h.what));
        }
        if (random(2) == 0) {
            m.code.set(at, new Model.Instr(27, 0));
            m.code.add(new Model.Instr(29, 0));
        }
    }

    /** Changes something; mostly keeps it only if it is still right. */
    private static void mutate(List<Model.Method> methods, int number) {
        Model.Method before = methods.get(number);
        boolean wasRight = new Model(methods).join(number) == 0;
        Model.Method m = before.copy();
        int at = random(m.code.size());
        switch (random(4)) {
            case 0:
                m.code.set(at, someInstr(m.code.size(), number));
                break;
            case 1:
                m.code.set(at, new Model.Instr(29 + random(3), random(m.code.size())));
                break;
            case 2:
                m.code.set(at, new Model.Instr(m.code.get(at).op, someA(m.code.get(at).op, m.code.size(), number)));
                break;
            default:
                if (m.code.size() < 40) {
                    m.code.add(random(m.code.size()), someInstr(m.code.size(), number));
                }
                break;
        }
        methods.set(number, m);
        if (wasRight && random(8) > 0 && new Model(methods).join(number) != 0) {
            methods.set(number, before);
        }
    }

    /** FRAMES as join() had it, with some left out or changed. */
    private static void frames(List<Model.Method> methods, int number) {
        Model.Method m = methods.get(number);
        Model model = new Model(methods);
        model.join(number);
        boolean spoil = random(3) == 0;
        boolean all = random(2) == 0;
        for (int at = 0; at < m.code.size(); at++) {
            boolean needed = all || isTarget(m, at) || at > 0 && isLast(m.code.get(at - 1).op);
            if (model.ahead[at] != null && (needed || random(6) == 0)) {
                m.frames[at] = model.ahead[at].copy();
            } else if (needed && random(2) == 0) {
                m.frames[at] = new Model.State();
            }
            if (m.frames[at] != null) {
                soften(m.frames[at], spoil);
            }
        }
    }

    private static boolean isLast(int op) {
        return op == 29 || op == 32 || op == 34;
    }

    private static boolean isTarget(Model.Method m, int at) {
        for (Model.Instr in : m.code) {
            if (in.op >= 29 && in.op <= 31 && in.a == at) {
                return true;
            }
        }
        for (Model.Handler h : m.handlers) {
            if (h.at == at) {
                return true;
            }
        }
        return false;
    }

    private static void soften(Model.State frame, boolean spoil) {
        for (int place = 0; place < frame.size(); place++) {
            if (random(25) == 0) {
                frame.set(place, 0);
            }
            if (spoil && random(60) == 0) {
                int[] kinds = {0, 1, 2, 3, 4, 5, 10, 11, 12, 13, 14, 15, 16, 17, 21, 22, 23, 24, 25, 100, 104, 139};
                frame.set(place, kinds[random(kinds.length)]);
            }
        }
        if (spoil && random(60) == 0 && frame.stack.size() < 8) {
            frame.stack.add(1);
        }
    }

    private static KindJudge built(List<Model.Method> methods) {
        KindJudge x = new KindJudge();
        for (int i = 0; i < methods.size(); i++) {
            Model.Method m = methods.get(i);
            x.method(m.params);
            for (Model.Instr in : m.code) {
                x.op(i, in.op, in.a);
            }
            for (Model.Handler h : m.handlers) {
                x.handler(i, h.from, h.to, h.at, h.what);
            }
            for (int at = 0; at < 40; at++) {
                if (m.frames[at] != null) {
                    x.frame(i, at, m.frames[at].stack.size());
                    for (int p = 0; p < m.frames[at].size(); p++) {
                        x.set(i, at, p, m.frames[at].get(p));
                    }
                }
            }
        }
        return x;
    }

    private static void same(List<Model.Method> methods, String call, long got, long want) {
        compared++;
        Check.due(call, got, want);
        if (got != want) {
            for (int i = 0; i < methods.size(); i++) {
                StringBuilder text = new StringBuilder("  method " + i + " of " + methods.get(i).params + ":");
                for (Model.Instr in : methods.get(i).code) {
                    text.append(" ").append(in.op).append(":").append(in.a);
                }
                System.out.println(text);
            }
        }
    }

    private static void compare(List<Model.Method> methods) {
        KindJudge x = built(methods);
        Model model = new Model(methods);
        boolean[] right = new boolean[methods.size()];
        for (int i = 0; i < methods.size(); i++) {
            int byFrames = model.judge(i);
            same(methods, "judge", x.judge(i), byFrames);
            places(methods, x, model, i);
            rightByFrames += byFrames == 0 ? 1 : 0;
            if (random(3) == 0) {
                right[i] = byFrames == 0;
                continue;
            }
            int joined = model.join(i);
            same(methods, "join", x.join(i), joined);
            wrongAtTheLast += joined > 0 && joined >= methods.get(i).code.size() ? 1 : 0;
            same(methods, "rounds", x.rounds(), model.rounds);
            places(methods, x, model, i);
            right[i] = joined == 0;
            rightByJoin += joined == 0 ? 1 : 0;
        }
        for (int i = 0; i < methods.size(); i++) {
            same(methods, "right", x.count(3, i), right[i] ? 1 : 0);
            right[i] = right[i] && callsRight(methods.get(i), i, right);
            for (int tries = 0; tries < 4; tries++) {
                runBoth(methods, x, i, right[i]);
            }
        }
    }

    private static boolean callsRight(Model.Method m, int number, boolean[] right) {
        for (Model.Instr in : m.code) {
            if (in.op == 33 && in.a >= 0 && in.a < number && !right[(int) in.a]) {
                return false;
            }
        }
        return true;
    }

    private static void places(List<Model.Method> methods, KindJudge x, Model model, int number) {
        for (int at = -1; at <= 41; at++) {
            for (int place = -1; place <= 17; place++) {
                same(methods, "kind(" + at + ", " + place + ")", x.kind(at, place), model.kind(number, at, place));
            }
        }
    }

    private static int someParam() {
        return random(4) == 0 ? random(80) - 20 : random(3);
    }

    private static void runBoth(List<Model.Method> methods, KindJudge x, int number, boolean right) {
        int[] params = {someParam(), someParam(), someParam(), someParam()};
        int how = x.run(number, params[0], params[1], params[2], params[3]);
        if (!right) {
            same(methods, "run", how, -2);
            return;
        }
        ModelRun run = new ModelRun(methods);
        run.run(number, params);
        same(methods, "run", how, run.how);
        same(methods, "answer", x.answer(), run.answer);
        int[] told = {run.done, run.failures, run.made, run.failMethod, run.failAt};
        for (int what = 0; what < 5; what++) {
            same(methods, "told(" + what + ")", x.told(what), told[what]);
        }
        outcomes[run.how]++;
        for (Model.Instr in : methods.get(number).code) {
            if (in.op >= 0 && in.op < 35) {
                opsOfRight[in.op]++;
            }
        }
    }
}
