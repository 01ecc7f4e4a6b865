/** The sentences that name boundary cases of METHODS and INSTRUCTIONS (part 2 of the document's terms). */
public final class MethodsBoundaryTest extends Built {
    private static final long[] NO_INSTRUCTIONS = {-1, 3, 39, 40, 1L << 32, Long.MIN_VALUE, Long.MAX_VALUE};

    public static void main(String[] args) {
        fullObject();
        params();
        locals();
        stackOfEight();
        framesForEach();
        uselessA();
        lowestBits();
        loads();
        halfWrittenOver();
        halfWrittenOverByLong();
        halfAlone();
        newOfItsOwn();
        madeEverywhere();
        madeByAnother();
        nothingComesBehind();
        noSuchOp();
        notAsTold();
        noSuchInstruction();
        noSuchMethod();
        coversByFrames();
        coversByJoin();
        coversInRun();
        oneInt();
        Check.end();
    }

    private static void fullObject() {
        part = "METHODS (8) have .. up to 40 INSTRUCTIONS, 6 HANDLERS; an object is used for at most 512 calls";
        KindJudge x = new KindJudge();
        for (int m = 0; m < 8; m++) {
            due("method", x.method(m % 5), m);
            for (int i = 0; i < 38; i++) {
                due("op", x.op(m, i % 2 == 0 ? NULL : DROP, 0), i);
            }
            due("op", x.op(m, INT, m), 38);
            due("op", x.op(m, RETURN, 0), 39);
            for (int i = 1; i <= 6; i++) {
                due("handler", x.handler(m, 0, 40, 39, i), i);
            }
        }
        due("a ninth METHOD", x.method(0), FULL);
        due("a 41st INSTRUCTION", x.op(7, NULL, 0), FULL);
        due("a 41st INSTRUCTION", x.op(0, NULL, 0), FULL);
        due("a seventh HANDLER", x.handler(7, 0, 40, 39, 0), FULL);
        due("a seventh HANDLER", x.handler(0, 0, 40, 39, 0), FULL);
        for (int m = 0; m < 8; m++) {
            due("join", x.join(m), 0);
            due("run", x.run(m, 0, 0, 0, 0), 0);
            due("answer", x.answer(), m);
            due("instructions done", x.told(0), 40);
        }
        due("METHODS", x.count(0, 0), 8);
        due("INSTRUCTIONS", x.count(1, 7), 40);
        due("HANDLERS", x.count(2, 7), 6);
    }

    private static void params() {
        part = "params (0 .. 4, INTS, the first locals)";
        due("too small", new KindJudge().method(-1), BAD);
        due("too large", new KindJudge().method(5), BAD);
        for (int params = 0; params <= 4; params++) {
            KindJudge x = one(params, INT, 0, RETURN, 0);
            for (int way = 0; way < 2; way++) {
                due(params + " params", way == 0 ? x.judge(0) : x.join(0), 0);
                for (int local = 0; local < 8; local++) {
                    due("local " + local + " of " + params + " params", x.kind(0, local), local < params ? 1 : 0);
                }
            }
            for (int local = 0; local < 8; local++) {
                KindJudge y = one(params, LOAD, local, RETURN, 0);
                due("LOAD " + local + " of " + params + " params", y.join(0), local < params ? 0 : 1);
                due("run", y.run(0, 5, 6, 7, 8), local < params ? 0 : -2);
                due("answer", y.answer(), local < params ? 5 + local : 0);
            }
        }
    }

    private static void locals() {
        part = "8 LOCALS: a local that it has is none of 0 .. 7";
        long[] none = {-1, 8, 9, 1L << 32, (1L << 32) + 1, Long.MIN_VALUE, Long.MAX_VALUE};
        for (long a : none) {
            joins(1, LOAD, a, GOTO, 1);
            joins(2, INT, 0, STORE, a, GOTO, 2);
            joins(1, LOADL, a, GOTO, 1);
            joins(2, LONG, 0, STOREL, a, GOTO, 2);
        }
        for (int a = 0; a < 8; a++) {
            runs(0, 6, 6, LOAD, 0, STORE, a, LOAD, a, RETURN, 0);
            joins(a < 7 ? 0 : 2, LONG, 6, STOREL, a, GOTO, 2);
            KindJudge x = one(0, GOTO, 3, LOADL, a, -1, 0, GOTO, 3);
            x.frame(0, 3, 0);
            x.frame(0, 1, 0);
            x.set(0, 1, a, 2);
            due("LOADL " + a + " without its second place", x.judge(0), 2);
            due("set", x.set(0, 1, a + 1, 3), a < 7 ? 0 : BAD);
            due("LOADL " + a, x.judge(0), a < 7 ? 3 : 2);
        }
        for (int a = 0; a < 7; a++) {
            runs(0, 6, 0, LONG, 6, STOREL, a, LOADL, a, TOINT, 0, RETURN, 0);
        }
    }

    private static void stackOfEight() {
        part = "a stack of 8 places (its depth counts places) .. or would have more than 8 places";
        joins(0, both(times(8, NULL, 0), GOTO, 8));
        joins(9, both(times(9, NULL, 0), GOTO, 9));
        joins(0, both(times(4, LONG, 0), GOTO, 4));
        joins(5, both(times(5, LONG, 0), GOTO, 5));
        joins(8, both(times(7, INT, 0), LONG, 0, GOTO, 8));
        joins(0, both(times(6, INT, 0), LONG, 0, GOTO, 7));
        joins(0, both(times(7, INT, 0), TOLONG, 0, GOTO, 8));
        joins(9, both(times(8, INT, 0), TOLONG, 0, GOTO, 9));
        KindJudge x = one(0, both(times(4, LONG, 0), GOTO, 4));
        x.join(0);
        due("the last place", x.kind(4, 15), 3);
        due("none behind it", x.kind(4, 16), NONE);
        runs(0, 36, 8, both(both(new long[] {LOAD, 0, INT, 7, INT, 6, INT, 5, INT, 4, INT, 3, INT, 2, INT, 1},
            times(7, REL, 0)), RETURN, 0));
        runs(0, 10, 0, LONG, 1, LONG, 2, LONG, 3, LONG, 4, RELL, 0, RELL, 0, RELL, 0, TOINT, 0, RETURN, 0);
    }

    private static void framesForEach() {
        part = "a FRAME for each instruction or none";
        KindJudge x = one(0, both(times(19, NULL, 0, DROP, 0), INT, 0, RETURN, 0));
        for (int at = 0; at < 40; at++) {
            due("frame", x.frame(0, at, at % 2), 0);
        }
        for (int at = 1; at < 40; at += 2) {
            due("set", x.set(0, at, 8, at == 39 ? 1 : 4), 0);
        }
        due("judge", x.judge(0), 0);
        due("kind", x.kind(37, 8), 4);
        x.frame(0, 39, -1);
        due("the last one has none", x.judge(0), 0);
        x.frame(0, 39, 0);
        due("another depth", x.judge(0), 40);
    }

    private static void uselessA() {
        part = "a (which counts for nothing where none is told)";
        long[] some = {Long.MIN_VALUE, -1, 8, 40, 1L << 32, Long.MAX_VALUE};
        for (long a : some) {
            runs(0, 9, 9, NULL, a, DROP, a, LOAD, 0, TOLONG, a, TOINT, a, RETURN, a);
            runs(0, 1, 9, LONG, 1, LONG, 2, LESS, a, RETURN, a);
            runs(0, 5, 5, LOAD, 0, INTS, a, DUP, a, INT, 1, LOAD, 0, PUT, a, INT, 1, GET, a, RETURN, a);
            runs(0, 5, 5, LOAD, 0, ROW, 1, DUP, a, INT, 1, NULL, a, GIVE, a, DUP, a, INT, 1, TAKE, a, DROP, a, LENGTH, a,
                RETURN, a);
            runs(0, 6, 5, NEW, 1, DUP, a, MADE, 1, DUP, a, LOAD, 0, SETFIELD, a, DUP, a, FIELD, a, DROP, a, WORTH, a,
                RETURN, a);
            runs(0, 4, 5, INT, 1, LOAD, 0, SWAP, a, REL, 1, RETURN, a);
            runs(7, 5, 5, LOAD, 0, FAIL, a);
        }
    }

    private static void lowestBits() {
        part = "0 INT a (its lowest 32 bits)";
        long[] some = {0, -1, 1L << 31, 1L << 32, (1L << 32) - 1, (5L << 32) + 7, Long.MIN_VALUE, Long.MAX_VALUE};
        for (long a : some) {
            runs(0, (int) a, 0, INT, a, RETURN, 0);
            part = "1 LONG a";
            runs(0, 0, 0, LONG, a, LONG, a, LESS, 0, RETURN, 0);
            runs(0, a == Long.MAX_VALUE ? 0 : 1, 0, LONG, a, LONG, a + 1, LESS, 0, RETURN, 0);
            runs(0, (int) (a >> 32), 0, LONG, a, LONG, a & 0xffffffffL, RELL, 1, LONG, 1L << 32, RELL, 3, TOINT, 0, RETURN,
                0);
        }
    }

    private static void loads() {
        part = "3 LOAD local a: , its KIND (ONE PLACE: INT, NULL, INTS, OBJECT, ROW, UNMADE)";
        for (int kind : SOME_KINDS) {
            for (int local = 0; local < 8; local++) {
                KindJudge x = one(0, GOTO, 3, LOAD, local, -1, 0, GOTO, 3);
                x.frame(0, 3, 0);
                x.frame(0, 1, 0);
                x.set(0, 1, local, kind);
                boolean onePlace = kind == 1 || kind >= 4;
                due("LOAD " + local + " of " + kind, x.judge(0), onePlace ? 3 : 2);
                due("pushes", x.kind(2, 8), onePlace ? kind : NONE);
                due("stays", x.kind(1, local), kind);
            }
        }
        joins(0, both(times(7, NULL, 0), LOAD, 0, GOTO, 8));
        joins(9, both(times(8, NULL, 0), LOAD, 0, GOTO, 9));
    }

    /** A METHOD with a LONG in two locals, then an INT in one. */
    private static KindJudge longThenInt(int first, int written) {
        KindJudge x = one(0, LONG, 5, STOREL, first, INT, 1, STORE, written, GOTO, 4);
        due("join", x.join(0), 0);
        return x;
    }

    private static void halfWrittenOver() {
        part = "Where the second place of a LONG is written over, its first one becomes TOP, and the other way round";
        for (int first = 0; first < 7; first++) {
            for (int written = 0; written < 8; written++) {
                KindJudge x = longThenInt(first, written);
                boolean lost = written == first || written == first + 1;
                for (int local = 0; local < 8; local++) {
                    int was = local == first ? 2 : local == first + 1 ? 3 : 0;
                    int want = local == written ? 1 : lost ? 0 : was;
                    due("local " + local + ", LONG in " + first + ", INT in " + written, x.kind(4, local), want);
                }
            }
        }
        joins(5, LONG, 5, STOREL, 3, INT, 1, STORE, 4, LOADL, 3, GOTO, 5);
        joins(5, LONG, 5, STOREL, 3, INT, 1, STORE, 3, LOADL, 3, GOTO, 5);
    }

    private static void halfWrittenOverByLong() {
        part = "6 STOREL: LONG. (Where the second place of a LONG is written over, its first one becomes TOP, ..)";
        for (int first = 0; first < 7; first++) {
            for (int written = 0; written < 7; written++) {
                KindJudge x = one(0, LONG, 5, STOREL, first, LONG, 1, STOREL, written, GOTO, 4);
                due("join", x.join(0), 0);
                boolean lost = Math.abs(first - written) <= 1;
                for (int local = 0; local < 8; local++) {
                    int was = lost ? 0 : local == first ? 2 : local == first + 1 ? 3 : 0;
                    int want = local == written ? 2 : local == written + 1 ? 3 : was;
                    due("local " + local + ", LONG in " + first + ", then in " + written, x.kind(4, local), want);
                }
            }
        }
    }

    private static void halfAlone() {
        part = "2 LONG, 3 behind a LONG (which takes two places)";
        // local 7 and the only place of the stack lie side by side but are no LONG
        KindJudge x = one(0, GOTO, 3, TOINT, 0, RETURN, 0, INT, 0, RETURN, 0);
        x.frame(0, 3, 0);
        x.frame(0, 1, 1);
        x.set(0, 1, 7, 2);
        x.set(0, 1, 8, 3);
        due("one place on the stack", x.judge(0), 2);
        x = one(0, GOTO, 3, STOREL, 6, RETURN, 0, INT, 0, RETURN, 0);
        x.frame(0, 3, 0);
        x.frame(0, 1, 1);
        x.set(0, 1, 7, 2);
        x.set(0, 1, 8, 3);
        due("one place on the stack", x.judge(0), 2);
        x = one(0, GOTO, 3, LOADL, 7, RETURN, 0, INT, 0, RETURN, 0);
        x.frame(0, 3, 0);
        x.frame(0, 1, 1);
        x.set(0, 1, 7, 2);
        x.set(0, 1, 8, 3);
        due("local 7 and the stack", x.judge(0), 2);
    }

    private static void newOfItsOwn() {
        part = "NEW while an UNMADE of its own is on the stack (in locals it becomes TOP by that)";
        for (int place = 0; place < 15; place++) {
            for (int maker = 1; maker <= 2; maker++) {
                KindJudge x = one(0, GOTO, 4, NEW, 1, NEW, 1, -1, 0, GOTO, 4);
                x.frame(0, 4, 0);
                x.frame(0, 1, Math.max(0, place - 7));
                x.set(0, 1, place, 100 + maker);
                boolean stack = place >= 8;
                // of 8 places on the stack only one is free, so the second NEW may be one too many
                int want = stack && maker == 1 ? 2 : stack && (maker == 2 || place == 14) ? 3 : 4;
                due("UNMADE by " + maker + " in place " + place, x.judge(0), want);
                if (!stack) {
                    due("ahead of it", x.kind(1, place), 100 + maker);
                    due("its own becomes TOP", x.kind(2, place), maker == 1 ? 0 : 102);
                    due("its own becomes TOP", x.kind(3, place), 0);
                }
            }
        }
        joins(2, NEW, 1, GOTO, 0);
        joins(0, NEW, 1, DROP, 0, GOTO, 0);
        joins(0, NEW, 1, STORE, 0, GOTO, 0);
        joins(0, NEW, 1, NEW, 1, NEW, 1, GOTO, 3);
        joins(4, NEW, 1, DUP, 0, DROP, 0, GOTO, 0);
    }

    private static void madeEverywhere() {
        part = "13 MADE a: UNMADE by an instruction NEW a: all places that hold that become OBJECT of a";
        KindJudge x = one(0, GOTO, 3, MADE, 3, -1, 0, NEW, 3, NEW, 3, GOTO, 5);
        x.frame(0, 3, 0);
        x.frame(0, 1, 8);
        for (int place = 0; place < 16; place++) {
            x.set(0, 1, place, place % 2 == 0 ? 104 : 103);
        }
        due("judge", x.judge(0), 3);
        for (int place = 0; place < 15; place++) {
            due("place " + place, x.kind(2, place), place % 2 == 0 ? 104 : 13);
        }
        due("it is popped", x.kind(2, 15), NONE);
    }

    private static void madeByAnother() {
        part = "13 MADE a: UNMADE by an instruction NEW a";
        for (int c = 1; c <= 5; c++) {
            for (int a = -1; a <= 8; a++) {
                joins(c == a ? 0 : 2, NEW, c, MADE, a, GOTO, 2);
            }
            joins(2, NEW, c, MADE, (1L << 32) + c, GOTO, 2);
        }
        joins(0, NULL, 0, NEW, 2, DUP, 0, MADE, 2, DROP, 0, NEW, 4, MADE, 4, GOTO, 7);
        for (int kind = 100; kind < 140; kind++) {
            KindJudge x = one(0, GOTO, 5, MADE, 2, -1, 0, NEW, 3, NEW, 2, CAST, 2);
            x.frame(0, 5, 0);
            x.frame(0, 1, 1);
            x.set(0, 1, 8, kind);
            due("UNMADE by " + (kind - 100), x.judge(0), kind == 104 ? 3 : 2);
        }
    }

    private static void nothingComesBehind() {
        part = "Behind 29, 32, 34 nothing comes to the next one";
        long[] stops = {GOTO, RETURN, FAIL};
        for (long op : stops) {
            KindJudge x = one(0, INT, 1, op, op == GOTO ? 3 : 0, NULL, 0, RETURN, 0);
            x.frame(0, 3, 1);
            x.set(0, 3, 8, 1);
            due("join", x.join(0), 0);
            due("nothing", x.kind(2, 0), NONE);
            due("judge", x.judge(0), 3);
        }
        for (int op = 0; op <= 34; op++) {
            boolean stops34 = op == GOTO || op == RETURN || op == FAIL;
            KindJudge x = one(0, INT, 0, op, 0);
            if (op != GOTO && stops34) {
                due("op " + op + " as the last one", x.join(0), 0);
                due("op " + op + " as the last one", x.judge(0), 0);
            } else {
                due("op " + op + " as the last one", x.join(0), 2);
            }
        }
    }

    private static void noSuchOp() {
        part = "WRONG is an instruction when its op .. [is] not as told";
        int[] none = {-1, 35, 36, 100, -34, Integer.MIN_VALUE, Integer.MAX_VALUE};
        for (int op : none) {
            KindJudge x = one(0, INT, 0, op, 0, RETURN, 0);
            due("op can be added", x.count(1, 0), 3);
            due("join", x.join(0), 2);
            due("judge", x.judge(0), 2);
            due("what comes to it", x.kind(1, 8), 1);
            due("nothing comes from it", x.kind(2, 0), NONE);
        }
    }

    private static void notAsTold() {
        part = "WRONG is an instruction when its .. a [is] not as told";
        long[] some = {Long.MIN_VALUE, -1, 0, 1, 4, 5, 6, 7, 8, 1L << 32, (1L << 32) + 1, Long.MAX_VALUE};
        for (long a : some) {
            boolean relation = a >= 0 && a <= 4;
            boolean isClass = a >= 1 && a <= 5;
            boolean orFace = a >= 0 && a <= 7;
            joins(relation ? 0 : 3, INT, 1, INT, 1, REL, a, GOTO, 3);
            joins(relation ? 0 : 3, LONG, 1, LONG, 1, RELL, a, GOTO, 3);
            joins(isClass ? 0 : 1, NEW, a, GOTO, 1);
            joins(isClass ? 0 : 2, INT, 1, ROW, a, GOTO, 2);
            joins(orFace ? 0 : 2, NULL, 1, CAST, a, GOTO, 2);
            joins(orFace ? 0 : 2, NULL, 1, IS, a, GOTO, 2);
        }
    }

    private static void noSuchInstruction() {
        part = "GOTO .. to an instruction that there is";
        for (long a : NO_INSTRUCTIONS) {
            joins(2, INT, 0, GOTO, a, RETURN, 0);
            joins(2, INT, 0, IFZERO, a, GOTO, 2);
            joins(2, NULL, 0, IFNULL, a, GOTO, 2);
            KindJudge x = one(0, GOTO, a, INT, 0, RETURN, 0);
            for (int at = 0; at < 40; at++) {
                x.frame(0, at, 0);
            }
            due("with FRAMES, GOTO " + a, x.judge(0), 1);
        }
        joins(0, INT, 0, GOTO, 2, RETURN, 0);
        joins(0, INT, 0, IFZERO, 2, GOTO, 2);
        joins(0, NULL, 0, IFNULL, 0, GOTO, 2);
        KindJudge x = one(0, both(both(new long[] {GOTO, 39}, times(38, NULL, 0)), GOTO, 0));
        due("to the fortieth", x.join(0), 0);
    }

    private static void noSuchMethod() {
        part = "33 CALL a (another METHOD, of a lesser number)";
        long[] some = {Long.MIN_VALUE, -1, 0, 1, 2, 3, 4, 5, 8, 1L << 32, Long.MAX_VALUE};
        for (long a : some) {
            KindJudge x = new KindJudge();
            for (int m = 0; m < 5; m++) {
                add(x, 0, CALL, a, RETURN, 0);
            }
            for (int m = 0; m < 5; m++) {
                due("CALL " + a + " in METHOD " + m, x.join(m), a >= 0 && a < m ? 0 : 1);
                due("CALL " + a + " in METHOD " + m, x.judge(m), a >= 0 && a < m ? 0 : 1);
            }
        }
    }

    /** A METHOD of five NULLS and what drops them, with a HANDLER from .. to at 11. */
    private static KindJudge covered(int from, int to) {
        KindJudge x = one(0, both(both(times(5, NULL, 0), times(5, DROP, 0)), GOTO, 10, RETURN, 0));
        x.frame(0, 10, 0);
        x.handler(0, from, to, 11, 0);
        return x;
    }

    private static void coversByFrames() {
        part = "A HANDLER (from, to, at, what): covers the instructions from from to before to (by FRAMES)";
        for (int from = 0; from < 10; from++) {
            for (int to = from + 1; to <= 10; to++) {
                KindJudge x = covered(from, to);
                due("the first that is covered", x.judge(0), 1 + from);
                // once the FRAME is there, only what locals come to the covered ones counts
                x.frame(0, 11, 1);
                x.set(0, 11, 8, 1);
                due("right", x.judge(0), 0);
            }
        }
        KindJudge x = covered(11, 40);
        x.frame(0, 11, 1);
        x.set(0, 11, 8, 1);
        due("from 11 on it is covered by itself", x.judge(0), 0);
        x = covered(12, 40);
        due("covers what is not there", x.join(0), 0);
    }

    private static void coversByJoin() {
        part = "A HANDLER (from, to, at, what): covers the instructions from from to before to (JOINED)";
        // instruction i leaves local i INT, so the LOCALS that come to the HANDLER's tell which ones it covers
        for (int from = 0; from < 14; from++) {
            for (int to = from + 1; to <= 14; to++) {
                KindJudge x = one(0, INT, 0, STORE, 0, INT, 0, STORE, 1, INT, 0, STORE, 2, INT, 0, STORE, 3, INT, 0, STORE, 4,
                    INT, 0, STORE, 5, INT, 0, STORE, 6, GOTO, 14, RETURN, 0);
                x.handler(0, from, to, 15, 0);
                due("join " + from + " " + to, x.join(0), 0);
                for (int local = 0; local < 7; local++) {
                    due("local " + local + " of " + from + " " + to, x.kind(15, local), from > 2 * local + 1 ? 1 : 0);
                }
            }
        }
    }

    private static void coversInRun() {
        part = "A HANDLER (from, to, at, what): covers the instructions from from to before to (RUN)";
        for (int from = 0; from < 7; from++) {
            for (int to = from + 1; to <= 7; to++) {
                KindJudge x = one(1, NULL, 0, DROP, 0, LOAD, 0, FAIL, 0, NULL, 0, DROP, 0, GOTO, 0, RETURN, 0);
                x.handler(0, from, to, 7, 0);
                due("join", x.join(0), 0);
                due("run " + from + " " + to, x.run(0, 55, 0, 0, 0), from <= 3 && to > 3 ? 0 : 7);
                due("answer", x.answer(), 55);
            }
        }
    }

    private static void oneInt() {
        part = "there the stack is one INT";
        KindJudge x = one(0, NULL, 0, LONG, 0, GOTO, 2, RETURN, 0);
        x.handler(0, 2, 3, 3, 0);
        due("join", x.join(0), 0);
        due("INT", x.kind(3, 8), 1);
        due("one", x.kind(3, 9), NONE);
        x.op(0, -1, 0);
        x.handler(0, 0, 1, 4, 0);
        due("WRONG there", x.join(0), 5);
        due("INT", x.kind(4, 8), 1);
        due("one", x.kind(4, 9), NONE);
    }
}
