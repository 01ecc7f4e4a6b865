import java.util.ArrayList;
import java.util.List;
import java.util.function.ToIntFunction;

/** The sentences that name refused calls and other boundary cases of the promises 1 to 15 themselves. */
public final class RefusedBoundaryTest extends Built {
    private static final int MIN = Integer.MIN_VALUE, MAX = Integer.MAX_VALUE;
    private static final int[] NEVER_METHODS = {MIN, -1, 8, MAX};

    public static void main(String[] args) {
        method();
        op();
        handler();
        frame();
        set();
        judge();
        join();
        kind();
        kindByFrames();
        kindOfTheLatest();
        kinds();
        run();
        runNotFoundRight();
        answer();
        told();
        count();
        firstOfSeveral();
        Check.end();
    }

    /** Three METHODS: one joined, one judged with FRAMES and HANDLERS, one not looked at; and a RUN that failed. */
    private static KindJudge used() {
        KindJudge x = new KindJudge();
        add(x, 2, LOAD, 0, LOAD, 1, REL, 3, RETURN, 0);
        add(x, 1, LOAD, 0, IFZERO, 6, INT, 9, LOAD, 0, CALL, 0, RETURN, 0, INT, 2, RETURN, 0, RETURN, 0);
        x.frame(1, 6, 0);
        x.set(1, 6, 0, 1);
        x.frame(1, 8, 1);
        x.set(1, 8, 8, 1);
        x.handler(1, 2, 5, 8, 6);
        x.handler(1, 5, 6, 8, 0);
        x.method(4);
        x.join(0);
        x.judge(1);
        x.run(0, 3, 0, 0, 0);
        return x;
    }

    /** As used(), but nothing more can be added to METHODS, nor to METHOD 2. */
    private static KindJudge full() {
        KindJudge x = used();
        append(x, 2, times(40, NULL, 0));
        for (int i = 0; i < 6; i++) {
            x.handler(2, 0, 1, 1, 0);
        }
        for (int m = 3; m < 8; m++) {
            x.method(0);
        }
        return x;
    }

    /** Everything that can be asked for, then what further calls find. */
    private static List<Integer> all(KindJudge x) {
        List<Integer> all = new ArrayList<>();
        for (int m = 0; m < 8; m++) {
            for (int what = 0; what < 4; what++) {
                all.add(x.count(what, m));
            }
        }
        for (int what = 0; what < 5; what++) {
            all.add(x.told(what));
        }
        all.add(x.answer());
        all.add(x.rounds());
        for (int at = 0; at < 9; at++) {
            for (int place = 0; place < 10; place++) {
                all.add(x.kind(at, place));
            }
        }
        all.add(x.run(1, 3, 0, 0, 0));
        all.add(x.answer());
        for (int m = 0; m < 3; m++) {
            all.add(x.judge(m));
            all.add(x.join(m));
            for (int at = 0; at < 10; at++) {
                all.add(x.set(m, at, 8, 4));
            }
            all.add(x.op(m, NULL, 0));
            all.add(x.handler(m, 0, 1, 0, 0));
        }
        all.add(x.method(0));
        return all;
    }

    private static void refused(String call, int want, ToIntFunction<KindJudge> refused) {
        KindJudge x = used();
        due(call, refused.applyAsInt(x), want);
        Check.due(part + ": " + call + " changes nothing", all(x).equals(all(used())));
        KindJudge y = full();
        due(call + ", all is full", refused.applyAsInt(y), want);
        Check.due(part + ": " + call + " changes nothing, all is full", all(y).equals(all(full())));
    }

    private static void refusedIfFull(String call, int otherwise, ToIntFunction<KindJudge> refused) {
        due(call, refused.applyAsInt(used()), otherwise);
        KindJudge x = full();
        due(call + ", all is full", refused.applyAsInt(x), FULL);
        Check.due(part + ": " + call + " changes nothing, all is full", all(x).equals(all(full())));
    }

    private static void method() {
        part = "2 method: A METHOD without instructions: its number. BAD: params. FULL.";
        int[] none = {MIN, -1, 5, 6, MAX};
        for (int params : none) {
            refused("method(" + params + ")", BAD, x -> x.method(params));
        }
        for (int p = 0; p <= 4; p++) {
            int params = p;
            refusedIfFull("method(" + params + ")", 3, x -> x.method(params));
        }
        KindJudge x = new KindJudge();
        for (int m = 0; m < 8; m++) {
            due("method", x.method(0), m);
            due("without instructions", x.count(1, m), 0);
            due("without HANDLERS", x.count(2, m), 0);
            due("not found right", x.count(3, m), 0);
        }
    }

    private static void op() {
        part = "3 op: An INSTRUCTION: its number. (The METHOD is not found right any more.) BAD: no such METHOD. FULL.";
        for (int m : NEVER_METHODS) {
            refused("op(" + m + ", 0, 0)", BAD, x -> x.op(m, 0, 0));
        }
        due("op(3, 0, 0)", used().op(3, 0, 0), BAD);
        refusedIfFull("op(2, 0, 0)", 0, x -> x.op(2, 0, 0));
        refusedIfFull("op(2, -1, 0)", 0, x -> x.op(2, -1, 0));
        KindJudge x = new KindJudge();
        x.method(0);
        for (int i = 0; i < 40; i++) {
            due("its number", x.op(0, i == 20 ? MIN : MAX, Long.MIN_VALUE), i);
        }
        due("a 41st", x.op(0, 0, 0), FULL);
        x = one(0, INT, 0, RETURN, 0);
        x.join(0);
        x.op(0, -1, 0);
        due("not found right any more", x.count(3, 0), 0);
    }

    private static void handler() {
        part = "4 handler: BAD: no such METHOD; not 0 to from, from below to, to 40; at is not 0 .. 39; what is not 0 .. 7."
            + " FULL.";
        for (int m : NEVER_METHODS) {
            refused("METHOD " + m, BAD, x -> x.handler(m, 0, 1, 0, 0));
        }
        due("METHOD 3", used().handler(3, 0, 1, 0, 0), BAD);
        int[][] ranges = {{-1, 1}, {MIN, 1}, {0, 0}, {1, 0}, {39, 39}, {40, 40}, {40, 41}, {0, 41}, {0, MAX}, {MAX, MIN},
            {-2, -1}, {MIN, MAX}, {5, 4}, {0, -1}};
        for (int[] range : ranges) {
            refused("from " + range[0] + " to " + range[1], BAD, x -> x.handler(1, range[0], range[1], 0, 0));
        }
        int[] ats = {-1, 40, MIN, MAX};
        for (int at : ats) {
            refused("at " + at, BAD, x -> x.handler(1, 0, 1, at, 0));
        }
        int[] whats = {-1, 8, MIN, MAX};
        for (int what : whats) {
            refused("what " + what, BAD, x -> x.handler(1, 0, 1, 0, what));
        }
        int[][] fine = {{0, 1, 0, 0}, {0, 40, 39, 7}, {39, 40, 39, 7}, {0, 1, 39, 0}, {38, 39, 0, 7}};
        for (int[] h : fine) {
            refusedIfFull("handler", 1, x -> x.handler(2, h[0], h[1], h[2], h[3]));
        }
        KindJudge x = one(0, INT, 0, RETURN, 0);
        for (int i = 1; i <= 6; i++) {
            x.join(0);
            due("how many there are", x.handler(0, 39, 40, 39, 7), i);
            due("not found right any more", x.count(3, 0), 0);
        }
        due("a seventh", x.handler(0, 39, 40, 39, 7), FULL);
    }

    private static void frame() {
        part = "5 frame: BAD: no such METHOD, instruction (0 .. 39, there or not); depth is not -1 .. 8.";
        for (int m : NEVER_METHODS) {
            refused("METHOD " + m, BAD, x -> x.frame(m, 0, 0));
        }
        due("METHOD 3", used().frame(3, 0, 0), BAD);
        int[] ats = {-1, 40, 41, MIN, MAX};
        for (int at : ats) {
            refused("at " + at, BAD, x -> x.frame(1, at, 0));
            refused("at " + at + ", -1", BAD, x -> x.frame(1, at, -1));
        }
        int[] depths = {-2, 9, MIN, MAX};
        for (int depth : depths) {
            refused("depth " + depth, BAD, x -> x.frame(1, 6, depth));
        }
        part = "5 frame: An instruction has a FRAME: all TOP, with so many places on the stack"
            + " (-1: it has none any more): 0.";
        for (int depth = -1; depth <= 8; depth++) {
            for (int at = 0; at < 40; at += 13) {
                KindJudge x = one(0, INT, 0, RETURN, 0);
                x.frame(0, at, 8);
                x.set(0, at, 15, 5);
                x.set(0, at, 0, 5);
                x.join(0);
                due("frame", x.frame(0, at, depth), 0);
                due("not found right any more", x.count(3, 0), 0);
                for (int place = -1; place <= 17; place++) {
                    boolean there = depth >= 0 && place >= 0 && place < 8 + depth;
                    due("place " + place + " with depth " + depth, x.set(0, at, place, 1), there ? 0 : BAD);
                }
            }
        }
    }

    private static void set() {
        part = "6 set: BAD: no such METHOD, FRAME, place (beyond the depth), KIND.";
        for (int m : NEVER_METHODS) {
            refused("METHOD " + m, BAD, x -> x.set(m, 6, 0, 0));
        }
        due("METHOD 3", used().set(3, 6, 0, 0), BAD);
        int[] ats = {-1, 0, 5, 7, 9, 39, 40, MIN, MAX};
        for (int at : ats) {
            refused("no FRAME at " + at, BAD, x -> x.set(1, at, 0, 0));
        }
        int[] places = {-1, 8, 15, 16, MIN, MAX};
        for (int place : places) {
            refused("place " + place, BAD, x -> x.set(1, 6, place, 0));
        }
        refused("place 9", BAD, x -> x.set(1, 8, 9, 0));
        for (int kind : NO_KINDS) {
            refused("KIND " + kind, BAD, x -> x.set(1, 6, 0, kind));
        }
        part = "6 set: A place of a FRAME (0 .. 7 LOCALS, 8 .. the stack from below) has a KIND: what it had.";
        for (int place = 0; place < 16; place++) {
            KindJudge x = new KindJudge();
            x.method(0);
            x.frame(0, 39, 8);
            int had = 0;
            for (int kind : SOME_KINDS) {
                due("KIND " + kind + " in " + place, x.set(0, 39, place, kind), had);
                had = kind;
            }
            due("another place", x.set(0, 39, (place + 1) % 16, 1), 0);
        }
        KindJudge x = one(0, INT, 0, RETURN, 0);
        x.frame(0, 1, 1);
        x.set(0, 1, 8, 1);
        due("right", x.judge(0), 0);
        due("what it had", x.set(0, 1, 8, 1), 1);
        due("not found right any more", x.count(3, 0), 0);
    }

    private static void judge() {
        part = "7 judge: 0 right; else 1 and the first WRONG instruction. BAD: no such METHOD.";
        for (int m : NEVER_METHODS) {
            refused("judge(" + m + ")", BAD, x -> x.judge(m));
        }
        due("judge(3)", used().judge(3), BAD);
        due("a METHOD without instructions", used().judge(2), 1);
        due("right", used().judge(1), 0);
    }

    private static void join() {
        part = "8 join: likewise. BAD: no such METHOD.";
        for (int m : NEVER_METHODS) {
            refused("join(" + m + ")", BAD, x -> x.join(m));
        }
        due("join(3)", used().join(3), BAD);
        due("a METHOD without instructions", used().join(2), 1);
        due("right", used().join(1), 0);
    }

    private static void kind() {
        part = "9 kind: NONE: nothing came to it, there is no such place, instruction";
        KindJudge x = new KindJudge();
        due("before any", x.kind(0, 0), NONE);
        x = one(1, LOAD, 0, LONG, 0, GOTO, 2, NULL, 0);
        for (int way = 0; way < 2; way++) {
            x.frame(0, 2, 3);
            x.set(0, 2, 8, 1);
            x.set(0, 2, 9, 2);
            x.set(0, 2, 10, 3);
            due("way " + way, way == 0 ? x.join(0) : x.judge(0), way == 0 ? 0 : 4);
            int[] noInstructions = {MIN, -1, 4, 5, 39, 40, MAX};
            for (int at : noInstructions) {
                due("no such instruction " + at, x.kind(at, 0), NONE);
            }
            int[] noPlaces = {MIN, -1, 11, 12, 15, 16, 17, MAX};
            for (int place : noPlaces) {
                due("no such place " + place, x.kind(2, place), NONE);
            }
            due("the last place", x.kind(2, 10), 3);
            due("no place on the stack", x.kind(0, 8), NONE);
            due("one place", x.kind(1, 8), 1);
            due("no second one", x.kind(1, 9), NONE);
            due("nothing came to it", x.kind(3, 0), NONE);
        }
    }

    private static void kindByFrames() {
        part = "9 kind: NONE: .. by FRAMES also one behind the WRONG one, and that one itself,"
            + " if it is WRONG by what comes and its FRAME";
        KindJudge x = one(1, LOAD, 0, DROP, 0, LOAD, 0, GOTO, 4, RETURN, 0);
        x.frame(0, 4, 1);
        x.set(0, 4, 8, 1);
        due("right", x.judge(0), 0);
        due("with the FRAME", x.kind(4, 0), 0);
        x.frame(0, 2, 0);
        due("WRONG by the LOAD of TOP", x.judge(0), 3);
        due("that one, with the FRAME", x.kind(2, 0), 0);
        due("behind it", x.kind(3, 0), NONE);
        due("behind it, with a FRAME", x.kind(4, 8), NONE);
        x.set(0, 2, 1, 1);
        due("WRONG by what comes and its FRAME", x.judge(0), 3);
        due("that one itself", x.kind(2, 0), NONE);
        due("the one before it", x.kind(1, 8), 1);
        x.frame(0, 2, -1);
        x.frame(0, 4, -1);
        due("WRONG by where it leads", x.judge(0), 4);
        due("that one itself", x.kind(3, 8), 1);
        x.frame(0, 4, 1);
        x.set(0, 4, 8, 1);
        x.handler(0, 1, 2, 39, 0);
        due("WRONG by its HANDLER", x.judge(0), 2);
        due("that one itself", x.kind(1, 8), 1);
        due("behind it", x.kind(2, 0), NONE);
        x = one(0, GOTO, 2, NULL, 0, GOTO, 2);
        x.frame(0, 2, 0);
        due("WRONG as nothing comes to it", x.judge(0), 2);
        due("that one itself", x.kind(1, 0), NONE);
    }

    private static void kindOfTheLatest() {
        part = "9 kind: as the latest judge() or join() of any METHOD had it";
        KindJudge x = new KindJudge();
        add(x, 1, LOAD, 0, RETURN, 0, NULL, 0);
        add(x, 2, NULL, 0, LENGTH, 0, RETURN, 0);
        x.join(0);
        due("of METHOD 0", x.kind(0, 1), 0);
        due("of METHOD 0", x.kind(1, 8), 1);
        due("of METHOD 0", x.kind(2, 0), NONE);
        x.judge(1);
        due("of METHOD 1", x.kind(0, 1), 1);
        due("of METHOD 1", x.kind(1, 8), 4);
        due("of METHOD 1", x.kind(2, 8), 1);
        x.judge(0);
        due("of METHOD 0 again", x.kind(1, 8), 1);
        due("of METHOD 0 again", x.kind(2, 0), NONE);
        x.op(0, NULL, 0);
        x.frame(0, 1, 1);
        x.set(0, 1, 8, 5);
        due("what is changed later counts for nothing", x.kind(1, 8), 1);
        due("what is added later counts for nothing", x.kind(3, 0), NONE);
        x.run(1, 0, 0, 0, 0);
        due("a RUN counts for nothing", x.kind(1, 8), 1);
    }

    private static void kinds() {
        part = "11 kinds: BAD: no such KINDS (those of 1)";
        for (int no : NO_KINDS) {
            refused("kinds(" + no + ", 1)", BAD, x -> x.kinds(no, 1, false));
            refused("kinds(1, " + no + ")", BAD, x -> x.kinds(1, no, false));
            refused("kinds(" + no + ", 1), goes", BAD, x -> x.kinds(no, 1, true));
            refused("kinds(1, " + no + "), goes", BAD, x -> x.kinds(1, no, true));
        }
        due("the widest", new KindJudge().kinds(139, 0, true), 1);
        due("the widest", new KindJudge().kinds(139, 139, false), 139);
    }

    private static void run() {
        part = "12 run: BAD: no such METHOD";
        for (int m : NEVER_METHODS) {
            refused("run(" + m + ")", BAD, x -> x.run(m, 1, 1, 1, 1));
        }
        due("run(3)", used().run(3, 1, 1, 1, 1), BAD);
        part = "12 run: A METHOD is RUN with four numbers for params";
        int[] some = {MIN, -1, 0, 1, MAX};
        for (int n : some) {
            for (int local = 0; local < 4; local++) {
                KindJudge x = one(4, LOAD, local, RETURN, 0);
                x.join(0);
                due("run", x.run(0, local == 0 ? n : 5, local == 1 ? n : 5, local == 2 ? n : 5, local == 3 ? n : 5), 0);
                due("param " + local, x.answer(), n);
            }
        }
    }

    private static void runNotFoundRight() {
        part = "12 run: -2: it, or one that an INSTRUCTION of it calls, come to or not (and so on), is not found right";
        refused("not looked at", -2, x -> x.run(2, 1, 1, 1, 1));
        KindJudge x = new KindJudge();
        add(x, 0, INT, 1, RETURN, 0);
        add(x, 0, INT, 1, RETURN, 0, CALL, 0);
        add(x, 0, CALL, 1, RETURN, 0);
        add(x, 0, INT, 4, RETURN, 0);
        for (int m = 1; m < 4; m++) {
            due("join", x.join(m), 0);
        }
        due("it calls none", x.run(3, 0, 0, 0, 0), 0);
        due("not come to", x.run(1, 0, 0, 0, 0), -2);
        due("and so on", x.run(2, 0, 0, 0, 0), -2);
        due("the RUN before it is the latest", x.answer(), 4);
        due("the RUN before it is the latest", x.told(0), 2);
        x.join(0);
        due("all are found right", x.run(2, 0, 0, 0, 0), 0);
        x.op(0, RETURN, 0);
        due("judged, but WRONG", x.judge(0), 3);
        due("and so on", x.run(2, 0, 0, 0, 0), -2);
        due("itself", x.run(0, 0, 0, 0, 0), -2);
    }

    private static void answer() {
        part = "13 answer: What the latest RUN returned, or the number of its FAILURE"
            + " (of 7: the INT; of 8, 9 0; of 10 that of the 13th); 0 before one";
        KindJudge x = new KindJudge();
        due("before one", x.answer(), 0);
        add(x, 1, LOAD, 0, RETURN, 0);
        add(x, 1, NULL, 0, DROP, 0, GOTO, 0);
        add(x, 1, INT, 31, INTS, 0, LENGTH, 0, RETURN, 0);
        add(x, 1, INT, 5, GOTO, 2, FAIL, 0);
        add(x, 1, INT, 1, INT, 0, REL, 4, RETURN, 0);
        x.handler(3, 2, 3, 2, 0);
        due("before one", x.answer(), 0);
        int[] outcomes = {0, 8, 9, 10, 6};
        int[] answers = {77, 0, 0, 5, 6};
        for (int m = 0; m < 5; m++) {
            due("join", x.join(m), 0);
        }
        for (int m = 0; m < 5; m++) {
            for (int then = 0; then < 5; then++) {
                due("run", x.run(m, 77, 0, 0, 0), outcomes[m]);
                due("answer", x.answer(), answers[m]);
                due("run", x.run(then, 77, 0, 0, 0), outcomes[then]);
                due("answer, the latest", x.answer(), answers[then]);
            }
        }
    }

    private static void told() {
        part = "14 told: Of the latest RUN .. (NONE: none did). BAD: another what.";
        int[] whats = {MIN, -1, 5, 6, MAX};
        for (int what : whats) {
            refused("told(" + what + ")", BAD, x -> x.told(what));
        }
        KindJudge x = new KindJudge();
        for (int what = 0; what < 5; what++) {
            due("before one, told(" + what + ")", x.told(what), what < 3 ? 0 : NONE);
        }
        add(x, 1, LOAD, 0, INTS, 0, LENGTH, 0, RETURN, 0);
        x.join(0);
        int[][] want = {{-1, 2, 1, 0, 0, 1}, {3, 4, 0, 1, NONE, NONE}, {31, 2, 0, 0, NONE, NONE}, {-5, 2, 1, 0, 0, 1},
            {0, 4, 0, 1, NONE, NONE}};
        for (int[] w : want) {
            x.run(0, w[0], 0, 0, 0);
            for (int what = 0; what < 5; what++) {
                due("with " + w[0] + ", told(" + what + ")", x.told(what), w[1 + what]);
            }
        }
        x.op(0, NULL, 0);
        x.run(0, -1, 0, 0, 0);
        due("a refused RUN is none", x.told(0), 4);
    }

    private static void count() {
        part = "15 count: BAD: another what, no such METHOD (for 1 to 3)";
        int[] whats = {MIN, -1, 4, 5, MAX};
        for (int what : whats) {
            for (int m = -1; m <= 3; m++) {
                int method = m;
                refused("count(" + what + ", " + m + ")", BAD, x -> x.count(what, method));
            }
        }
        int[] none = {MIN, -1, 3, 7, 8, MAX};
        for (int m : none) {
            KindJudge x = used();
            due("METHODS, whatever the second number", x.count(0, m), 3);
            for (int what = 1; what <= 3; what++) {
                due("count(" + what + ", " + m + ")", x.count(what, m), BAD);
            }
        }
        due("none", new KindJudge().count(0, 0), 0);
        due("8", full().count(0, 0), 8);
        due("40", full().count(1, 2), 40);
        due("6", full().count(2, 2), 6);
        due("right", used().count(3, 0), 1);
        due("not right", used().count(3, 2), 0);
    }

    private static void firstOfSeveral() {
        part = "BAD ..; FULL ..; of several the first one here";
        KindJudge x = full();
        due("method", x.method(5), BAD);
        due("method", x.method(-1), BAD);
        due("method", x.method(4), FULL);
        due("op", x.op(8, 0, 0), BAD);
        due("op", x.op(2, 0, 0), FULL);
        due("handler", x.handler(2, 0, 41, 0, 0), BAD);
        due("handler", x.handler(2, 0, 1, 40, 0), BAD);
        due("handler", x.handler(2, 0, 1, 0, 8), BAD);
        due("handler", x.handler(2, 1, 1, 0, 0), BAD);
        due("handler", x.handler(2, 0, 1, 0, 0), FULL);
    }
}
