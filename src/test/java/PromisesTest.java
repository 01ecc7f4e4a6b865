/** Each promise of the document: ordinary inputs, the edges that it names, wrong inputs. */
public final class PromisesTest extends Built {
    public static void main(String[] args) {
        promise1();
        promise2();
        promise3();
        promise4();
        promise5();
        promise6();
        promise7();
        promise7Frames();
        promise7Handlers();
        promise8();
        promise8Rounds();
        promise8Wrong();
        eachInstruction();
        fullAndEmptyStack();
        halvesOfLongs();
        halvesInFrames();
        unmade();
        unmadeInFrames();
        promise9();
        promise10();
        promise11();
        promise12();
        promise12NotRight();
        failures();
        handlersCatch();
        limits();
        numbers();
        objects();
        promise13();
        promise14();
        promise15();
        Check.end();
    }

    private static void promise1() {
        part = "1";
        KindJudge x = new KindJudge();
        due("METHODS", x.count(0, 0), 0);
        due("op", x.op(0, 0, 0), BAD);
        due("handler", x.handler(0, 0, 1, 0, 0), BAD);
        due("frame", x.frame(0, 0, 0), BAD);
        due("set", x.set(0, 0, 0, 0), BAD);
        due("judge", x.judge(0), BAD);
        due("join", x.join(0), BAD);
        due("run", x.run(0, 0, 0, 0, 0), BAD);
        due("kind", x.kind(0, 0), NONE);
        due("rounds", x.rounds(), 0);
        due("answer", x.answer(), 0);
        due("told(0)", x.told(0), 0);
        due("told(1)", x.told(1), 0);
        due("told(2)", x.told(2), 0);
        due("told(3)", x.told(3), NONE);
        due("told(4)", x.told(4), NONE);
    }

    private static void promise2() {
        part = "2";
        KindJudge x = new KindJudge();
        due("-1", x.method(-1), BAD);
        due("5", x.method(5), BAD);
        due("min", x.method(Integer.MIN_VALUE), BAD);
        for (int i = 0; i < 8; i++) {
            due("method", x.method(i % 5), i);
            due("its instructions", x.count(1, i), 0);
        }
        due("a ninth", x.method(0), FULL);
        due("BAD before FULL", x.method(5), BAD);
        due("still", x.count(0, 0), 8);
        due("no such", x.op(8, 0, 0), BAD);
        due("the eighth", x.op(7, 0, 0), 0);
    }

    private static void promise3() {
        part = "3";
        KindJudge x = one(0, INT, 1, RETURN, 0);
        due("no such", x.op(1, 0, 0), BAD);
        due("no such", x.op(-1, 0, 0), BAD);
        x.join(0);
        due("right", x.count(3, 0), 1);
        x.op(1, 0, 0);
        due("still right", x.count(3, 0), 1);
        due("op", x.op(0, 99, Long.MIN_VALUE), 2);
        due("not right any more", x.count(3, 0), 0);
        due("join does not look at it", x.join(0), 0);
        for (int i = 3; i < 40; i++) {
            due("op", x.op(0, 2, 0), i);
        }
        due("right by join", x.join(0), 0);
        due("a 41st", x.op(0, 2, 0), FULL);
        due("FULL changes nothing", x.count(3, 0), 1);
        due("there are 40", x.count(1, 0), 40);
    }

    private static void promise4() {
        part = "4";
        KindJudge x = one(0, INT, 1, RETURN, 0, RETURN, 0);
        x.join(0);
        due("no such METHOD", x.handler(1, 0, 1, 2, 0), BAD);
        due("from", x.handler(0, -1, 1, 2, 0), BAD);
        due("from is to", x.handler(0, 1, 1, 2, 0), BAD);
        due("from behind to", x.handler(0, 2, 1, 2, 0), BAD);
        due("to", x.handler(0, 0, 41, 2, 0), BAD);
        due("at", x.handler(0, 0, 1, -1, 0), BAD);
        due("at", x.handler(0, 0, 1, 40, 0), BAD);
        due("what", x.handler(0, 0, 1, 2, -1), BAD);
        due("what", x.handler(0, 0, 1, 2, 8), BAD);
        due("none", x.count(2, 0), 0);
        due("still right", x.count(3, 0), 1);
        due("the first", x.handler(0, 0, 1, 2, 7), 1);
        due("not right any more", x.count(3, 0), 0);
        due("widest", x.handler(0, 39, 40, 39, 0), 2);
        for (int i = 3; i <= 6; i++) {
            due("more", x.handler(0, 0, 40, 2, i), i);
        }
        due("right", x.join(0), 0);
        due("a seventh", x.handler(0, 0, 1, 2, 0), FULL);
        due("BAD before FULL", x.handler(0, 0, 1, 2, 8), BAD);
        due("FULL changes nothing", x.count(3, 0), 1);
        due("there are 6", x.count(2, 0), 6);
    }

    private static void promise5() {
        part = "5";
        KindJudge x = one(1, LOAD, 0, RETURN, 0);
        due("right", x.judge(0), 0);
        due("no such METHOD", x.frame(1, 0, 0), BAD);
        due("at", x.frame(0, -1, 0), BAD);
        due("at", x.frame(0, 40, 0), BAD);
        due("depth", x.frame(0, 0, -2), BAD);
        due("depth", x.frame(0, 0, 9), BAD);
        due("still right", x.count(3, 0), 1);
        due("not there", x.frame(0, 39, 8), 0);
        due("not right any more", x.count(3, 0), 0);
        due("a FRAME where no instruction is counts for nothing", x.judge(0), 0);
        due("all TOP", x.frame(0, 0, 0), 0);
        due("LOAD of TOP", x.judge(0), 1);
        due("set", x.set(0, 0, 0, 1), 0);
        due("right again", x.judge(0), 0);
        due("anew", x.frame(0, 0, 0), 0);
        due("all TOP again", x.set(0, 0, 0, 1), 0);
        due("another depth", x.frame(0, 0, 1), 0);
        due("what comes has none", x.judge(0), 1);
        due("none any more", x.frame(0, 0, -1), 0);
        due("no FRAME", x.set(0, 0, 0, 1), BAD);
        due("right without", x.judge(0), 0);
        due("none where none was", x.frame(0, 1, -1), 0);
        due("not right any more", x.count(3, 0), 0);
    }

    private static void promise6() {
        part = "6";
        KindJudge x = one(0, GOTO, 1, GOTO, 1);
        x.frame(0, 1, 0);
        due("right", x.judge(0), 0);
        due("no such METHOD", x.set(1, 1, 0, 0), BAD);
        due("no FRAME", x.set(0, 0, 0, 0), BAD);
        due("no FRAME", x.set(0, -1, 0, 0), BAD);
        due("no FRAME", x.set(0, 40, 0, 0), BAD);
        due("place", x.set(0, 1, -1, 0), BAD);
        due("beyond the depth", x.set(0, 1, 8, 0), BAD);
        int[] none = {-1, 6, 9, 18, 19, 20, 26, 99, 140, Integer.MAX_VALUE, Integer.MIN_VALUE};
        for (int kind : none) {
            due("KIND " + kind, x.set(0, 1, 0, kind), BAD);
        }
        due("still right", x.count(3, 0), 1);
        due("the same", x.set(0, 1, 0, 0), 0);
        due("not right any more", x.count(3, 0), 0);
        int[] all = {0, 1, 2, 3, 4, 5, 10, 11, 12, 13, 14, 15, 16, 17, 21, 22, 23, 24, 25, 100, 139};
        int before = 0;
        for (int kind : all) {
            due("KIND " + kind, x.set(0, 1, 7, kind), before);
            before = kind;
        }
        x.frame(0, 1, 8);
        due("the last place", x.set(0, 1, 15, 5), 0);
        due("what it had", x.set(0, 1, 15, 4), 5);
        due("behind it", x.set(0, 1, 16, 4), BAD);
        x.frame(0, 1, 1);
        due("beyond the depth", x.set(0, 1, 9, 1), BAD);
    }

    private static void promise7() {
        part = "7";
        KindJudge x = new KindJudge();
        due("BAD", x.judge(0), BAD);
        x.method(0);
        due("without instructions", x.judge(0), 1);
        due("BAD", x.judge(1), BAD);
        due("BAD", x.judge(-1), BAD);
        x = one(1, LOAD, 0);
        due("behind the last one: that number", x.judge(0), 2);
        due("what came to 0", x.kind(0, 0), 1);
        due("not found right", x.count(3, 0), 0);
        x = one(1, LOAD, 0, DROP, 0, LOAD, 1, RETURN, 0);
        due("LOAD of TOP", x.judge(0), 3);
        x = one(0, INT, 0, RETURN, 0, INT, 0, RETURN, 0);
        due("nothing comes, no FRAME", x.judge(0), 3);
        x.frame(0, 2, 0);
        due("nothing comes, a FRAME", x.judge(0), 0);
        x = one(0);
        for (int i = 0; i < 40; i++) {
            x.op(0, i % 2 == 0 ? NULL : DROP, 0);
        }
        due("behind the fortieth", x.judge(0), 41);
    }

    private static void promise7Frames() {
        part = "7 frames";
        KindJudge x = one(1, LOAD, 0, IFZERO, 4, INT, 1, RETURN, 0, INT, 2, RETURN, 0);
        due("leads to no FRAME", x.judge(0), 2);
        x.frame(0, 4, 0);
        due("right", x.judge(0), 0);
        x.set(0, 4, 0, 1);
        due("right with INT", x.judge(0), 0);
        x.set(0, 4, 1, 1);
        due("TOP does not go to INT", x.judge(0), 2);
        x.frame(0, 4, 1);
        due("two depths", x.judge(0), 2);
        x.frame(0, 4, 0);
        x.frame(0, 2, 0);
        x.set(0, 2, 0, 5);
        due("what comes does not go to the FRAME", x.judge(0), 3);
        due("kind ahead of it", x.kind(2, 0), NONE);
        due("kind before it", x.kind(1, 8), 1);
        x.frame(0, 2, 1);
        due("the same depth", x.judge(0), 3);
        x = one(0, NULL, 0, GOTO, 0);
        x.frame(0, 0, 0);
        due("leads with another depth", x.judge(0), 2);
        x = one(0, NULL, 0, CAST, 2, IFNULL, 4, GOTO, 4, NULL, 0, FIELD, 0, RETURN, 0);
        x.frame(0, 4, 0);
        due("IFNULL", x.judge(0), 0);
        x = one(0, GOTO, 3, INT, 1, RETURN, 0, GOTO, 1);
        x.frame(0, 1, 0);
        x.frame(0, 3, 0);
        due("back", x.judge(0), 0);
        due("run", x.run(0, 0, 0, 0, 0), 0);
        x = one(0, GOTO, 2, GOTO, 2);
        x.frame(0, 2, 0);
        due("to an instruction that there is not, with a FRAME", x.judge(0), 1);
    }

    private static void promise7Handlers() {
        part = "7 handlers";
        KindJudge x = one(1, LOAD, 0, INTS, 0, STORE, 1, LOAD, 0, RETURN, 0, RETURN, 0);
        x.handler(0, 1, 4, 5, 0);
        due("without a FRAME", x.judge(0), 2);
        x.frame(0, 5, 2);
        due("two places", x.judge(0), 2);
        x.frame(0, 5, 1);
        due("TOP", x.judge(0), 6);
        x.set(0, 5, 8, 4);
        due("INT does not go to NULL", x.judge(0), 2);
        x.set(0, 5, 8, 1);
        due("right", x.judge(0), 0);
        x.set(0, 5, 1, 5);
        due("LOCALS that come", x.judge(0), 2);
        x.set(0, 5, 1, 0);
        x.set(0, 5, 0, 1);
        due("INT in it", x.judge(0), 0);
        x.frame(0, 3, 0);
        due("with its own FRAME: that one's", x.judge(0), 4);
        x.frame(0, 3, -1);
        x.handler(0, 4, 5, 6, 0);
        x.frame(0, 6, 1);
        due("at is not there", x.judge(0), 5);
        x = one(0, GOTO, 1, GOTO, 0);
        x.frame(0, 0, 0);
        x.frame(0, 1, 0);
        x.handler(0, 1, 2, 1, 3);
        due("covers what can not fail", x.judge(0), 2);
    }

    private static void promise8() {
        part = "8";
        KindJudge x = new KindJudge();
        due("BAD", x.join(0), BAD);
        x.method(0);
        due("without instructions", x.join(0), 1);
        due("BAD", x.join(1), BAD);
        due("BAD", x.join(-1), BAD);
        x = one(1, LOAD, 0, IFZERO, 5, NULL, 0, CAST, 4, GOTO, 7, NULL, 0, CAST, 3, WORTH, 0, RETURN, 0);
        due("D and C", x.join(0), 0);
        due("are JOINED", x.kind(7, 8), 11);
        due("found right", x.count(3, 0), 1);
        due("judge", x.judge(0), 2);
        due("the latest counts", x.count(3, 0), 0);
        x.join(0);
        due("the latest counts", x.count(3, 0), 1);
        x.frame(0, 2, 8);
        due("FRAMES count for nothing", x.join(0), 0);
        joins(0, INT, 1, RETURN, 0, 99, 99);
        joins(2, INT, 1, IFZERO, 3, GOTO, 0);
        joins(2, INT, 1, IFZERO, -1, GOTO, 0);
        joins(2, INT, 1, IFZERO, 1L << 32, GOTO, 0);
    }

    private static void promise8Rounds() {
        part = "8 rounds";
        // local 1 is D ahead of the loop, in it becomes B, then A: the join goes up at each ROUND
        KindJudge x = one(1, NULL, 0, CAST, 4, STORE, 1, NULL, 0, CAST, 2, STORE, 2, LOAD, 0, IFZERO, 14,
            LOAD, 2, STORE, 1, NULL, 0, CAST, 1, STORE, 2, GOTO, 6, LOAD, 1, WORTH, 0, RETURN, 0);
        due("join", x.join(0), 0);
        due("local 1", x.kind(6, 1), 11);
        due("local 1 behind the loop", x.kind(14, 1), 11);
        due("local 2", x.kind(6, 2), 11);
        due("rounds", x.rounds(), 4);
        x = one(0, GOTO, 3, INT, 1, RETURN, 0, GOTO, 1);
        due("back", x.join(0), 0);
        due("the second ROUND goes on, the third changes nothing", x.rounds(), 3);
        x = one(0, GOTO, 0);
        due("itself", x.join(0), 0);
        due("nothing is changed", x.rounds(), 1);
    }

    private static void promise8Wrong() {
        part = "8 wrong";
        joins(2, NULL, 0, GOTO, 0);
        joins(2, INT, 1, IFZERO, 1);
        behindTheLast();
        KindJudge x = one(1, LOAD, 0, INTS, 0, LENGTH, 0, RETURN, 0);
        x.handler(0, 2, 3, 4, 0);
        due("the HANDLER's is not there", x.join(0), 3);
        x.op(0, RETURN, 0);
        due("it is there", x.join(0), 0);
        due("one INT", x.kind(4, 8), 1);
        due("no more", x.kind(4, 9), NONE);
        x = one(1, LOAD, 0, INTS, 0, STORE, 0, NULL, 0, STORE, 0, LOAD, 0, RETURN, 0, RETURN, 0);
        x.handler(0, 2, 5, 7, 0);
        due("NULL is no INT", x.join(0), 7);
        due("what comes to 2, 3 and 4, not what 4 leaves", x.kind(7, 0), 0);
        x = one(1, LOAD, 0, IFZERO, 2, INT, 1, RETURN, 0);
        x.handler(0, 0, 1, 2, 0);
        due("two depths by a HANDLER and what is left there", x.join(0), 2);
        x = one(1, LOAD, 0, IFZERO, 3, GOTO, 5, NULL, 0, GOTO, 6, INT, 0, RETURN, 0);
        due("INT and NULL are TOP", x.join(0), 7);
        due("so it is told", x.kind(6, 8), 0);
        x = one(0, INT, 1, RETURN, 0, 99, 0);
        x.handler(0, 0, 1, 2, 0);
        due("a HANDLER's instruction is looked at", x.join(0), 3);
    }

    private static void behindTheLast() {
        KindJudge x = one(0);
        for (int i = 0; i < 40; i++) {
            x.op(0, i % 2 == 0 ? NULL : DROP, 0);
        }
        due("behind the fortieth: that one is WRONG", x.join(0), 40);
        due("no such instruction", x.kind(40, 0), NONE);
        due("the last", x.kind(39, 8), 4);
        due("in the first ROUND", x.rounds(), 1);
        due("not found right", x.count(3, 0), 0);
        due("by FRAMES the number behind it", x.judge(0), 41);
        joins(1, INT, 0);
        joins(2, NULL, 0, DROP, 0);
        joins(2, INT, 0, IFZERO, 0);
        joins(3, INT, 0, IFZERO, 0, NULL, 0);
        joins(0, GOTO, 0, NULL, 0);
        x = one(0, NULL, 0, DROP, 0);
        x.handler(0, 1, 2, 5, 0);
        due("as where the HANDLER's is not there", x.join(0), 2);
        x = one(0, NULL, 0, GOTO, 4, INT, 0, RETURN, 0, DROP, 0);
        x.handler(0, 4, 5, 3, 0);
        due("the last one", x.join(0), 5);
        due("met before its HANDLERS", x.kind(3, 8), NONE);
        x = one(0, INT, 0, GOTO, 4, INT, 0, RETURN, 0, IFZERO, 2);
        due("the last one", x.join(0), 5);
        due("met before where it leads", x.kind(2, 0), NONE);
        x = one(0, GOTO, 3, NULL, 0, GOTO, 4, GOTO, 1, DROP, 0);
        due("the last one", x.join(0), 5);
        due("in the second ROUND", x.rounds(), 2);
        x.op(0, GOTO, 5);
        due("something is behind it", x.join(0), 0);
        x = one(0, INT, 7, RETURN, 0);
        for (int i = 2; i < 40; i++) {
            x.op(0, CALL, 0);
        }
        due("join", x.join(0), 0);
        due("run of forty", x.run(0, 0, 0, 0, 0), 0);
    }

    private static void eachInstruction() {
        part = "instructions";
        int[] pushes = {INT, LONG, NULL};
        for (int op : pushes) {
            KindJudge x = one(0);
            for (int i = 0; i < 9; i++) {
                x.op(0, op, 5);
            }
            due("more than 8 places of " + op, x.join(0), op == LONG ? 5 : 9);
        }
        joins(8, INT, 0, NULL, 0, NULL, 0, NULL, 0, NULL, 0, NULL, 0, NULL, 0, LOADL, 0);
        joins(9, NULL, 0, NULL, 0, NULL, 0, NULL, 0, NULL, 0, NULL, 0, NULL, 0, INT, 0, TOLONG, 0, GOTO, 9);
        joins(9, NULL, 0, NULL, 0, NULL, 0, NULL, 0, NULL, 0, NULL, 0, NULL, 0, INT, 0, DUP, 0, GOTO, 9);
        joins(9, NULL, 0, NULL, 0, NULL, 0, NULL, 0, NULL, 0, NULL, 0, NULL, 0, INT, 0, NEW, 1, GOTO, 9);
        joins(0, NULL, 0, NULL, 0, NULL, 0, NULL, 0, NULL, 0, NULL, 0, INT, 0, TOLONG, 0, GOTO, 8);
        int[] pops = {STORE, STOREL, REL, RELL, TOLONG, TOINT, LESS, MADE, INTS, ROW, LENGTH, GET, PUT, TAKE, GIVE,
            CAST, IS, FIELD, SETFIELD, WORTH, DUP, DROP, SWAP, IFZERO, IFNULL, RETURN, FAIL};
        for (int op : pops) {
            joins(1, op, 1, GOTO, 1);
        }
        long[] locals = {-1, 8, 1L << 32, Long.MAX_VALUE, Long.MIN_VALUE};
        for (long a : locals) {
            joins(1, LOAD, a, GOTO, 1);
            joins(2, INT, 0, STORE, a, GOTO, 2);
            joins(2, LONG, 0, STOREL, a, GOTO, 2);
            joins(1, LOADL, a, GOTO, 1);
        }
        joins(2, LONG, 0, STOREL, 7, GOTO, 2);
        joins(0, LONG, 0, STOREL, 6, LOADL, 6, GOTO, 3);
        joins(3, LONG, 0, STOREL, 5, LOADL, 6, GOTO, 3);
        long[] relations = {-1, 5, 1L << 32};
        for (long a : relations) {
            joins(3, INT, 1, INT, 1, REL, a, GOTO, 3);
            joins(3, LONG, 1, LONG, 1, RELL, a, GOTO, 3);
        }
        joins(3, INT, 1, NULL, 0, REL, 0, GOTO, 3);
        joins(3, NULL, 0, INT, 1, REL, 0, GOTO, 3);
        joins(3, INT, 1, LONG, 0, REL, 0, GOTO, 3);
        joins(3, INT, 1, INT, 0, RELL, 0, GOTO, 3);
        joins(3, INT, 1, LONG, 0, LESS, 0, GOTO, 3);
        joins(2, LONG, 1, DROP, 0, GOTO, 2);
        joins(2, LONG, 1, DUP, 0, GOTO, 2);
        joins(2, LONG, 1, STORE, 0, GOTO, 2);
        joins(3, LONG, 1, INT, 0, SWAP, 0, GOTO, 3);
        joins(3, LONG, 1, STOREL, 2, LOAD, 2, GOTO, 3);
        arraysAndObjects();
        calls();
    }

    private static void arraysAndObjects() {
        part = "arrays and objects";
        long[] classes = {-1, 0, 6, 7, 1L << 32 | 1};
        for (long a : classes) {
            joins(1, NEW, a, GOTO, 1);
            joins(2, INT, 1, ROW, a, GOTO, 2);
        }
        long[] faces = {-1, 8, 1L << 32};
        for (long a : faces) {
            joins(2, NULL, 1, CAST, a, GOTO, 2);
            joins(2, NULL, 1, IS, a, GOTO, 2);
        }
        joins(2, INT, 1, LENGTH, 0, GOTO, 2);
        joins(3, NULL, 0, CAST, 0, LENGTH, 0, GOTO, 3);
        joins(0, NULL, 0, LENGTH, 0, RETURN, 0);
        joins(0, NULL, 0, INT, 0, GET, 0, RETURN, 0);
        joins(4, INT, 1, ROW, 1, INT, 0, GET, 0, GOTO, 4);
        joins(4, INT, 1, INTS, 0, INT, 0, TAKE, 0, GOTO, 4);
        joins(5, INT, 1, INTS, 0, INT, 0, NULL, 0, GIVE, 0, GOTO, 5);
        joins(5, INT, 1, ROW, 1, INT, 0, INT, 0, GIVE, 0, GOTO, 5);
        joins(5, INT, 1, ROW, 1, INT, 0, NEW, 1, GIVE, 0, GOTO, 5);
        joins(0, INT, 1, ROW, 1, INT, 0, INT, 1, INTS, 0, GIVE, 0, GOTO, 6);
        joins(5, INT, 1, INTS, 0, NULL, 0, INT, 0, PUT, 0, GOTO, 5);
        joins(3, NULL, 0, CAST, 0, FIELD, 0, GOTO, 3);
        joins(3, NULL, 0, CAST, 6, WORTH, 0, GOTO, 3);
        joins(0, NULL, 0, CAST, 5, WORTH, 0, RETURN, 0);
        joins(4, INT, 1, ROW, 2, INT, 3, SETFIELD, 0, GOTO, 4);
        joins(2, INT, 1, IFNULL, 0);
        joins(2, NEW, 1, IFNULL, 0);
        joins(2, NULL, 1, IFZERO, 0);
        KindJudge x = one(0, NULL, 0, INT, 0, TAKE, 0, GOTO, 4, INT, 0, ROW, 3, INT, 0, TAKE, 0, GOTO, 8);
        x.join(0);
        due("of NULL NULL", x.kind(3, 8), 4);
        x = one(0, INT, 0, ROW, 3, INT, 0, TAKE, 0, GOTO, 4);
        x.join(0);
        due("ROW", x.kind(2, 8), 23);
        due("OBJECT of the ROW's class", x.kind(4, 8), 13);
        x = one(0, INT, 0, INTS, 0, CAST, 7, IS, 6, RETURN, 0);
        due("join", x.join(0), 0);
        due("INTS", x.kind(2, 8), 5);
        due("CAST", x.kind(3, 8), 17);
        due("IS", x.kind(4, 8), 1);
        x = one(0, INT, 1, NULL, 0, SWAP, 0, GOTO, 3);
        x.join(0);
        due("SWAP", x.kind(3, 8), 4);
        due("SWAP", x.kind(3, 9), 1);
    }

    private static void calls() {
        part = "calls";
        KindJudge x = new KindJudge();
        add(x, 2, INT, 1, RETURN, 0);
        add(x, 0, INT, 1, INT, 2, CALL, 0, RETURN, 0);
        due("join", x.join(1), 0);
        due("an INT", x.kind(3, 8), 1);
        due("alone", x.kind(3, 9), NONE);
        add(x, 0, INT, 1, CALL, 0, RETURN, 0);
        due("one of two params", x.join(2), 2);
        add(x, 0, INT, 1, NULL, 0, CALL, 0, RETURN, 0);
        due("NULL", x.join(3), 3);
        add(x, 0, CALL, 4, RETURN, 0);
        due("itself", x.join(4), 1);
        add(x, 0, CALL, 6, RETURN, 0);
        add(x, 0, CALL, 1, RETURN, 0);
        due("a greater number", x.join(5), 1);
        due("a lesser one, not judged yet", x.join(6), 0);
        add(x, 0, CALL, -1, RETURN, 0);
        due("none", x.join(7), 1);
        x = new KindJudge();
        add(x, 0, INT, 1, RETURN, 0);
        int m = add(x, 0, NULL, 0, NULL, 0, NULL, 0, NULL, 0, NULL, 0, NULL, 0, NULL, 0, NULL, 0, CALL, 0, GOTO, 9);
        due("more than 8 places", x.join(m), 9);
    }

    private static void fullAndEmptyStack() {
        part = "full and empty";
        joins(3, INT, 1, STORE, 7, DROP, 0, GOTO, 3);
        joins(3, INT, 1, STORE, 7, RETURN, 0);
        joins(4, LONG, 1, STOREL, 6, INT, 0, TOINT, 0, GOTO, 4);
        joins(3, LONG, 1, STOREL, 6, TOINT, 0, GOTO, 3);
        runs(0, 36, 8, INT, 1, INT, 2, INT, 3, INT, 4, INT, 5, INT, 6, INT, 7, LOAD, 0,
            REL, 0, REL, 0, REL, 0, REL, 0, REL, 0, REL, 0, REL, 0, RETURN, 0);
        runs(0, 10, 4, LONG, 1, LONG, 2, LONG, 3, LONG, 4, RELL, 0, RELL, 0, RELL, 0, TOINT, 0, RETURN, 0);
        joins(2, NULL, 0, 35, 0, GOTO, 2);
        joins(2, LONG, 0, -1, 0, GOTO, 2);
        joins(0, LONG, 0, STOREL, 0, LOADL, 0, TOINT, 0, RETURN, 0);
    }

    private static void halvesOfLongs() {
        part = "halves";
        KindJudge x = one(0, LONG, 5, STOREL, 3, INT, 1, STORE, 4, GOTO, 4);
        x.join(0);
        due("first", x.kind(2, 3), 2);
        due("second", x.kind(2, 4), 3);
        due("the second one is written over", x.kind(4, 3), 0);
        due("by an INT", x.kind(4, 4), 1);
        x = one(0, LONG, 5, STOREL, 3, INT, 1, STORE, 3, GOTO, 4);
        x.join(0);
        due("the first one is written over", x.kind(4, 4), 0);
        due("by an INT", x.kind(4, 3), 1);
        x = one(0, LONG, 5, STOREL, 3, LONG, 6, STOREL, 4, GOTO, 4);
        x.join(0);
        due("by a LONG", x.kind(4, 3), 0);
        due("by a LONG", x.kind(4, 4), 2);
        due("by a LONG", x.kind(4, 5), 3);
        x = one(0, LONG, 5, STOREL, 3, LONG, 6, STOREL, 2, GOTO, 4);
        x.join(0);
        due("by a LONG", x.kind(4, 2), 2);
        due("by a LONG", x.kind(4, 3), 3);
        due("by a LONG", x.kind(4, 4), 0);
        x = one(0, LONG, 5, STOREL, 0, LONG, 5, STOREL, 2, LONG, 6, STOREL, 1, LONG, 7, STOREL, 1, GOTO, 8);
        x.join(0);
        due("between two", x.kind(8, 0), 0);
        due("between two", x.kind(8, 1), 2);
        due("between two", x.kind(8, 2), 3);
        due("between two", x.kind(8, 3), 0);
    }

    /** A LONG comes to instruction 3 in locals 0 and 1; its FRAME tells one half; then a local is written. */
    private static KindJudge halfTold(int half, int written) {
        KindJudge x = one(0, LONG, 5, STOREL, 0, INT, 0, STORE, written, NULL, 0, FAIL, 0);
        x.frame(0, 3, 1);
        x.set(0, 3, 8, 1);
        x.set(0, 3, half, 2 + half);
        due("FAIL with NULL", x.judge(0), 6);
        return x;
    }

    private static void halvesInFrames() {
        part = "halves in frames";
        due("the second place of the LONG", halfTold(0, 1).kind(4, 0), 0);
        due("INT", halfTold(0, 1).kind(4, 1), 1);
        due("the first place of the LONG", halfTold(1, 0).kind(4, 1), 0);
        due("INT", halfTold(1, 0).kind(4, 0), 1);
        due("another local", halfTold(0, 2).kind(4, 0), 2);
        due("another local", halfTold(1, 2).kind(4, 1), 3);
        KindJudge x = one(0, LONG, 5, STOREL, 0, LOADL, 0, GOTO, 3);
        x.frame(0, 2, 0);
        x.set(0, 2, 0, 2);
        due("one half is no LONG", x.judge(0), 3);
        x.frame(0, 2, 0);
        x.set(0, 2, 1, 3);
        due("nor the other", x.judge(0), 3);
        for (int half = 0; half < 2; half++) {
            x = one(0, LONG, 5, TOINT, 0, RETURN, 0);
            x.frame(0, 1, 2);
            x.set(0, 1, 8 + half, 2 + half);
            due("on the stack", x.judge(0), 2);
            x.set(0, 1, 9 - half, 3 - half);
            due("both", x.judge(0), 0);
        }
        // nothing comes to instruction 1, so its FRAME may tell anything
        x = one(0, GOTO, 5, INT, 0, STORE, 7, DUP, 0, FAIL, 0, INT, 0, RETURN, 0);
        x.frame(0, 5, 0);
        x.frame(0, 1, 1);
        x.set(0, 1, 8, 1);
        x.set(0, 1, 7, 2);
        due("local 7 has none behind it: the stack stays", x.judge(0), 0);
        due("the stack", x.kind(3, 8), 1);
    }

    private static void unmade() {
        part = "unmade";
        joins(3, NEW, 2, DUP, 0, MADE, 1, GOTO, 3);
        joins(2, NULL, 0, MADE, 1, GOTO, 2);
        joins(3, NEW, 1, MADE, 1, FIELD, 0, GOTO, 3);
        joins(2, NEW, 1, FIELD, 0, GOTO, 2);
        joins(2, NEW, 1, CAST, 0, GOTO, 2);
        joins(0, NEW, 1, NEW, 1, SWAP, 0, MADE, 1, MADE, 1, GOTO, 5);
        KindJudge x = one(0, NEW, 1, STORE, 0, GOTO, 0);
        due("of its own in LOCALS", x.join(0), 0);
        due("it becomes TOP", x.kind(0, 0), 0);
        x = one(0, NEW, 3, DUP, 0, STORE, 0, DUP, 0, NEW, 3, MADE, 3, MADE, 3, GOTO, 7);
        due("two of one class", x.join(0), 0);
        due("LOCALS", x.kind(7, 0), 13);
        due("the stack", x.kind(7, 8), 13);
        due("before", x.kind(5, 0), 100);
        due("the other", x.kind(5, 10), 104);
        x = one(0, GOTO, 1, NEW, 1, GOTO, 3, GOTO, 1);
        x.frame(0, 1, 1);
        x.set(0, 1, 8, 101);
        x.frame(0, 3, 2);
        due("by FRAMES nothing of that depth comes", x.judge(0), 1);
        x = one(0, GOTO, 5, NEW, 1, GOTO, 4, GOTO, 1, GOTO, 4, INT, 0, RETURN, 0);
        x.frame(0, 1, 1);
        x.set(0, 1, 8, 101);
        x.frame(0, 5, 0);
        due("NEW while its own is on the stack", x.judge(0), 2);
        x = one(0, GOTO, 3, MADE, 2, GOTO, 2, INT, 0, RETURN, 0);
        x.frame(0, 1, 1);
        x.set(0, 1, 8, 103);
        x.frame(0, 3, 0);
        due("UNMADE by what is no NEW", x.judge(0), 2);
        x.set(0, 1, 8, 139);
        due("UNMADE by what is not there", x.judge(0), 2);
    }

    private static void unmadeInFrames() {
        part = "unmade in frames";
        KindJudge x = one(0, GOTO, 4, MADE, 2, GOTO, 2, IFNULL, 2, INT, 0, RETURN, 0);
        x.frame(0, 1, 1);
        x.set(0, 1, 8, 103);
        x.frame(0, 2, 0);
        x.frame(0, 4, 0);
        due("UNMADE by what is no NEW but has that a", x.judge(0), 2);
        x = one(0, GOTO, 4, MADE, 7, GOTO, 2, NEW, 7, INT, 0, RETURN, 0);
        x.frame(0, 1, 1);
        x.set(0, 1, 8, 103);
        x.frame(0, 2, 0);
        x.frame(0, 4, 0);
        due("a FACE can not be made", x.judge(0), 2);
        x = one(0, GOTO, 4, MADE, 5, GOTO, 2, NEW, 5, INT, 0, RETURN, 0);
        x.frame(0, 1, 2);
        x.set(0, 1, 3, 103);
        x.set(0, 1, 8, 103);
        x.set(0, 1, 9, 103);
        x.frame(0, 2, 1);
        x.frame(0, 3, 0);
        x.frame(0, 4, 1);
        due("NEW further on; what comes to 4 has another depth", x.judge(0), 1);
        x.frame(0, 4, 0);
        due("NEW leaves another depth", x.judge(0), 5);
        due("LOCALS by the FRAME", x.kind(2, 3), 0);
        x.set(0, 2, 3, 15);
        x.set(0, 2, 8, 15);
        due("what was UNMADE goes to OBJECT of E", x.judge(0), 5);
        due("LOCALS", x.kind(2, 3), 15);
    }

    private static void promise9() {
        part = "9";
        KindJudge x = one(1, LOAD, 0, LOAD, 0, REL, 9, RETURN, 0);
        due("before", x.kind(0, 0), NONE);
        due("judge", x.judge(0), 3);
        due("a local", x.kind(0, 0), 1);
        due("TOP", x.kind(0, 7), 0);
        due("the stack is empty", x.kind(0, 8), NONE);
        due("place", x.kind(0, -1), NONE);
        due("place", x.kind(2, 10), NONE);
        due("place", x.kind(2, 16), NONE);
        due("place", x.kind(2, Integer.MAX_VALUE), NONE);
        due("the WRONG one, not by what comes", x.kind(2, 9), 1);
        due("behind it", x.kind(3, 0), NONE);
        due("no instruction", x.kind(4, 0), NONE);
        due("no instruction", x.kind(40, 0), NONE);
        due("no instruction", x.kind(-1, 0), NONE);
        due("join", x.join(0), 3);
        due("nothing came", x.kind(3, 0), NONE);
        x.judge(5);
        x.join(-1);
        due("BAD changes nothing", x.kind(2, 9), 1);
        add(x, 0, INT, 1, RETURN, 0);
        x.op(0, RETURN, 0);
        due("as the latest had it", x.kind(2, 9), 1);
        x.judge(1);
        due("of any METHOD", x.kind(0, 0), 0);
        due("of any METHOD", x.kind(2, 9), NONE);
        x = one(1, LOAD, 0, DROP, 0, LOAD, 0, RETURN, 0);
        x.frame(0, 2, 0);
        due("judge", x.judge(0), 3);
        due("with the FRAME", x.kind(2, 0), 0);
        x.frame(0, 2, 1);
        due("judge", x.judge(0), 3);
        due("WRONG by what comes and its FRAME", x.kind(2, 0), NONE);
        due("before it", x.kind(1, 8), 1);
        x = one(1, LOAD, 0, IFZERO, 4, GOTO, 2, 99, 0, 99, 0);
        due("join", x.join(0), 5);
        due("came to", x.kind(4, 0), 1);
        due("never came to", x.kind(3, 0), NONE);
    }

    private static void promise10() {
        part = "10";
        KindJudge x = one(0, INT, 1, RETURN, 0);
        due("before one", x.rounds(), 0);
        x.judge(0);
        due("judge is none", x.rounds(), 0);
        x.join(0);
        due("one that changes, one that does not", x.rounds(), 2);
        x.join(7);
        due("BAD changes nothing", x.rounds(), 2);
        x.judge(0);
        due("judge changes nothing", x.rounds(), 2);
        int m = add(x, 0, INT, 1, REL, 0);
        x.join(m);
        due("WRONG in the first", x.rounds(), 1);
        m = add(x, 0, INT, 1, STORE, 0, LOAD, 0, RETURN, 0, NULL, 0, STORE, 0, GOTO, 2);
        x.join(m);
        due("not come to", x.rounds(), 2);
        m = add(x, 1, LOAD, 0, IFZERO, 4, LOAD, 0, RETURN, 0, NULL, 0, STORE, 0, GOTO, 2);
        due("NULL comes to 2", x.join(m), 3);
        due("WRONG in the second", x.rounds(), 2);
        x.method(4);
        due("without instructions", x.join(m + 1), 1);
        due("WRONG before any ROUND", x.rounds(), 0);
        due("nothing came", x.kind(0, 0), NONE);
        x.op(m + 1, GOTO, 0);
        due("with one", x.join(m + 1), 0);
        due("one ROUND", x.rounds(), 1);
    }

    private static void promise11() {
        part = "11";
        KindJudge x = new KindJudge();
        int[] none = {-1, 6, 7, 8, 9, 18, 19, 20, 26, 50, 99, 140, Integer.MAX_VALUE, Integer.MIN_VALUE};
        for (int kind : none) {
            due("kinds(" + kind + ", 0)", x.kinds(kind, 0, false), BAD);
            due("kinds(0, " + kind + ")", x.kinds(0, kind, true), BAD);
            due("kinds(it, it)", x.kinds(kind, kind, false), BAD);
        }
        int[] all = {0, 1, 2, 3, 4, 5, 10, 11, 12, 13, 14, 15, 16, 17, 21, 22, 23, 24, 25, 100, 139};
        for (int a : all) {
            x = new KindJudge();
            for (int b : all) {
                due("GOES " + a + " " + b, x.kinds(a, b, true), Model.goes(a, b) ? 1 : 0);
                due("JOIN " + a + " " + b, x.kinds(a, b, false), Model.join(a, b));
                due("JOIN is the same both ways", x.kinds(a, b, false), x.kinds(b, a, false));
            }
        }
        due("D and E", x.kinds(14, 15, false), 11);
        due("D and F", x.kinds(14, 16, false), 10);
        due("ROWS of D and B", x.kinds(24, 22, false), 22);
        due("ROWS of D and C", x.kinds(24, 23, false), 21);
        due("UNMADE by two", x.kinds(100, 101, false), 0);
        due("UNMADE by one", x.kinds(139, 139, false), 139);
        due("UNMADE to ROOT", x.kinds(100, 10, true), 0);
        due("NULL to UNMADE", x.kinds(4, 100, true), 0);
        due("LONG to INT", x.kinds(2, 1, true), 0);
        due("ROW of D to ROW of B", x.kinds(24, 22, true), 1);
        due("ROW of B to ROW of D", x.kinds(22, 24, true), 0);
        due("ROW to a FACE", x.kinds(22, 16, true), 1);
        due("ROW to A", x.kinds(21, 11, true), 0);
        due("F to A", x.kinds(16, 11, true), 0);
    }

    private static void promise12() {
        part = "12";
        KindJudge x = one(4, LOAD, 0, INT, 1000, REL, 2, LOAD, 1, INT, 100, REL, 2, REL, 0, LOAD, 2, INT, 10, REL, 2,
            REL, 0, LOAD, 3, REL, 0, RETURN, 0);
        due("not judged", x.run(0, 1, 2, 3, 4), -2);
        x.join(0);
        due("BAD", x.run(1, 1, 2, 3, 4), BAD);
        due("BAD", x.run(-1, 1, 2, 3, 4), BAD);
        due("run", x.run(0, 1, 2, 3, 4), 0);
        due("answer", x.answer(), 1234);
        KindJudge y = new KindJudge();
        add(y, 3, LOAD, 0, INT, 100, REL, 2, LOAD, 1, INT, 10, REL, 2, REL, 0, LOAD, 2, REL, 0, RETURN, 0);
        add(y, 1, INT, 7, INT, 1, INT, 2, LOAD, 0, CALL, 0, REL, 1, RETURN, 0);
        y.join(0);
        y.join(1);
        due("run", y.run(1, 3, 0, 0, 0), 0);
        due("params in their order, what lies below them stays", y.answer(), 7 - 123);
        y = new KindJudge();
        add(y, 1, LOAD, 0, RETURN, 0);
        y.join(0);
        for (int m = 1; m < 8; m++) {
            add(y, 1, LOAD, 0, INT, m, STORE, 0, INT, 1, REL, 0, CALL, m - 1, LOAD, 0, REL, 0, RETURN, 0);
            due("join", y.join(m), 0);
        }
        due("eight within one another", y.run(7, 100, 0, 0, 0), 0);
        due("each with LOCALS of its own", y.answer(), 100 + 7 + 28);
        due("instructions", y.told(0), 7 * 9 + 2);
    }

    private static void promise12NotRight() {
        part = "12 not right";
        KindJudge x = new KindJudge();
        add(x, 0, INT, 1, RETURN, 0);
        add(x, 0, CALL, 0, RETURN, 0);
        add(x, 0, INT, 5, RETURN, 0, CALL, 1, RETURN, 0);
        add(x, 0, INT, 5, RETURN, 0, CALL, 99, CALL, -1, CALL, 3, CALL, 4);
        add(x, 0);
        x.join(2);
        x.join(1);
        due("one that is called is not found right", x.run(1, 0, 0, 0, 0), -2);
        due("not come to, one further", x.run(2, 0, 0, 0, 0), -2);
        x.join(0);
        due("all", x.run(2, 0, 0, 0, 0), 0);
        due("answer", x.answer(), 5);
        x.frame(1, 0, -1);
        due("not any more", x.run(2, 0, 0, 0, 0), -2);
        due("changes nothing", x.answer(), 5);
        due("changes nothing", x.told(0), 2);
        due("the called one alone", x.run(0, 0, 0, 0, 0), 0);
        KindJudge y = new KindJudge();
        add(y, 0);
        add(y, 1, LOAD, 0, DUP, 0, REL, 0, RETURN, 0);
        y.join(1);
        due("what is no CALL calls none", y.run(1, 4, 0, 0, 0), 0);
        x.join(3);
        due("CALLS of no METHOD of a lesser number, never come to", x.run(3, 0, 0, 0, 0), 0);
        due("judge finds it wrong", x.judge(3), 3);
        due("the latest counts", x.run(3, 0, 0, 0, 0), -2);
    }

    private static void failures() {
        part = "failures";
        runs(1, 1, 0, NULL, 0, LENGTH, 0, RETURN, 0);
        runs(1, 1, 0, NULL, 0, INT, -1, GET, 0, RETURN, 0);
        runs(1, 1, 0, NULL, 0, INT, -1, INT, 3, PUT, 0, INT, 0, RETURN, 0);
        runs(1, 1, 0, NULL, 0, INT, -1, TAKE, 0, DROP, 0, INT, 0, RETURN, 0);
        runs(1, 1, 0, NULL, 0, INT, -1, NULL, 0, GIVE, 0, INT, 0, RETURN, 0);
        runs(1, 1, 0, NULL, 0, FIELD, 0, RETURN, 0);
        runs(1, 1, 0, NULL, 0, INT, 1, SETFIELD, 0, INT, 0, RETURN, 0);
        runs(1, 1, 0, NULL, 0, WORTH, 0, RETURN, 0);
        int[] indices = {-1, 3, Integer.MAX_VALUE, Integer.MIN_VALUE};
        for (int i : indices) {
            runs(2, 2, i, INT, 3, INTS, 0, LOAD, 0, GET, 0, RETURN, 0);
            runs(2, 2, i, INT, 3, INTS, 0, LOAD, 0, INT, 1, PUT, 0, INT, 0, RETURN, 0);
            runs(2, 2, i, INT, 3, ROW, 1, LOAD, 0, TAKE, 0, DROP, 0, INT, 0, RETURN, 0);
            runs(2, 2, i, INT, 3, ROW, 1, LOAD, 0, INT, 0, INTS, 0, GIVE, 0, INT, 0, RETURN, 0);
        }
        runs(0, 0, 2, INT, 3, INTS, 0, LOAD, 0, GET, 0, RETURN, 0);
        runs(3, 3, 0, INT, 1, ROW, 1, INT, 0, INT, 0, INTS, 0, GIVE, 0, INT, 0, RETURN, 0);
        runs(3, 3, 0, INT, 1, ROW, 1, INT, 0, INT, 0, ROW, 1, GIVE, 0, INT, 0, RETURN, 0);
        runs(3, 3, 0, INT, 1, ROW, 3, INT, 0, NEW, 4, DUP, 0, MADE, 4, GIVE, 0, INT, 0, RETURN, 0);
        runs(0, 0, 0, INT, 1, ROW, 2, INT, 0, NEW, 4, DUP, 0, MADE, 4, GIVE, 0, INT, 0, RETURN, 0);
        runs(0, 0, 0, INT, 1, ROW, 2, INT, 0, NULL, 0, GIVE, 0, INT, 0, RETURN, 0);
        runs(4, 4, 0, NEW, 4, DUP, 0, MADE, 4, CAST, 3, DROP, 0, INT, 0, RETURN, 0);
        runs(4, 4, 0, NEW, 2, DUP, 0, MADE, 2, CAST, 6, DROP, 0, INT, 0, RETURN, 0);
        runs(4, 4, 0, INT, 1, ROW, 1, CAST, 1, DROP, 0, INT, 0, RETURN, 0);
        runs(0, 0, 0, INT, 1, ROW, 1, CAST, 0, DROP, 0, INT, 0, RETURN, 0);
        runs(0, 0, 0, NULL, 0, CAST, 7, DROP, 0, INT, 0, RETURN, 0);
        runs(5, 5, -1, LOAD, 0, INTS, 0, LENGTH, 0, RETURN, 0);
        runs(5, 5, Integer.MIN_VALUE, LOAD, 0, ROW, 5, LENGTH, 0, RETURN, 0);
        runs(0, 0, 0, LOAD, 0, ROW, 5, LENGTH, 0, RETURN, 0);
        for (int a = 3; a <= 4; a++) {
            runs(6, 6, 0, INT, 5, LOAD, 0, REL, a, RETURN, 0);
            runs(6, 6, 0, LONG, 5, LOAD, 0, TOLONG, 0, RELL, a, TOINT, 0, RETURN, 0);
        }
        runs(7, -77, -77, LOAD, 0, FAIL, 0);
        runs(7, 0, 0, LOAD, 0, FAIL, 0);
    }

    private static void handlersCatch() {
        part = "handlers";
        KindJudge x = one(2, LOAD, 0, LOAD, 1, REL, 3, RETURN, 0, INT, 10, REL, 0, RETURN, 0, INT, 20, REL, 0, RETURN, 0);
        x.handler(0, 0, 2, 4, 0);
        x.handler(0, 2, 3, 4, 5);
        x.handler(0, 2, 4, 7, 6);
        x.handler(0, 2, 3, 4, 0);
        x.join(0);
        due("run", x.run(0, 1, 0, 0, 0), 0);
        due("the first that covers it and is for it", x.answer(), 26);
        due("it arose", x.told(1), 1);
        x = one(1, INT, 1, LOAD, 0, FAIL, 0, INT, 10, REL, 0, RETURN, 0);
        x.handler(0, 2, 3, 3, 7);
        x.join(0);
        due("run", x.run(0, -5, 0, 0, 0), 0);
        due("the INT alone is on the stack", x.answer(), 5);
        x = new KindJudge();
        add(x, 1, LOAD, 0, FAIL, 0);
        add(x, 1, LOAD, 0, CALL, 0, RETURN, 0, INT, 1, RETURN, 0);
        add(x, 1, INT, 9, STORE, 3, LOAD, 0, CALL, 1, RETURN, 0, LOAD, 3, REL, 0, RETURN, 0);
        x.handler(1, 1, 2, 2, 6);
        x.handler(2, 3, 4, 5, 7);
        x.join(0);
        x.join(1);
        due("join", x.join(2), 0);
        due("run", x.run(2, 6, 0, 0, 0), 0);
        due("through a METHOD, LOCALS stay", x.answer(), 15);
        due("it arises once", x.told(1), 1);
        due("where", x.told(3), 0);
        due("at", x.told(4), 1);
        due("instructions", x.told(0), 11);
        due("the middle one has none for it", x.run(1, 3, 0, 0, 0), 7);
        due("the INT", x.answer(), 3);
        x = one(0, INT, 1, FAIL, 0);
        x.handler(0, 1, 2, 1, 7);
        x.join(0);
        due("a HANDLER that fails itself", x.run(0, 0, 0, 0, 0), 10);
        due("answer", x.answer(), 1);
        due("instructions", x.told(0), 14);
    }

    private static void limits() {
        part = "limits";
        KindJudge x = one(0, NULL, 0, DROP, 0, GOTO, 0);
        x.join(0);
        due("SPENT", x.run(0, 0, 0, 0, 0), 8);
        due("answer", x.answer(), 0);
        due("instructions", x.told(0), 2000);
        // 1 instruction ahead of the loop, 7 each time in it, 4 that leave it
        x = one(1, GOTO, 1, LOAD, 0, IFZERO, 8, LOAD, 0, INT, 1, REL, 1, STORE, 0, GOTO, 1, INT, 3, RETURN, 0);
        x.join(0);
        due("run", x.run(0, 285, 0, 0, 0), 0);
        due("2000 are enough", x.told(0), 1 + 285 * 7 + 4);
        x = one(1, GOTO, 1, LOAD, 0, IFZERO, 8, LOAD, 0, INT, 1, REL, 1, STORE, 0, GOTO, 1, GOTO, 9, INT, 3, RETURN, 0);
        x.join(0);
        due("run", x.run(0, 285, 0, 0, 0), 8);
        due("2001 are not", x.told(0), 2000);
        due("answer", x.answer(), 0);
        x = one(1, GOTO, 1, LOAD, 0, IFZERO, 8, LOAD, 0, INT, 1, REL, 1, STORE, 0, GOTO, 1, INT, 3, FAIL, 0);
        x.join(0);
        due("the 2000th fails", x.run(0, 285, 0, 0, 0), 7);
        x.handler(0, 9, 10, 0, 0);
        due("two depths", x.join(0), 10);
        rooms();
    }

    private static void rooms() {
        part = "room";
        runs(0, 30, 30, LOAD, 0, INTS, 0, LENGTH, 0, RETURN, 0);
        runs(0, 30, 30, LOAD, 0, ROW, 2, LENGTH, 0, RETURN, 0);
        runs(9, 0, 31, LOAD, 0, INTS, 0, LENGTH, 0, RETURN, 0);
        runs(9, 0, 31, LOAD, 0, ROW, 2, LENGTH, 0, RETURN, 0);
        long[][] makers = {{INT, 0, INTS, 0}, {INT, 0, ROW, 1}, {NULL, 0, DROP, 0, NEW, 1}};
        for (long[] maker : makers) {
            int end = 6 + maker.length / 2 + 2;
            KindJudge x = one(1, LOAD, 0, IFZERO, end, LOAD, 0, INT, 1, REL, 1, STORE, 0);
            for (int i = 0; i < maker.length; i += 2) {
                x.op(0, (int) maker[i], maker[i + 1]);
            }
            x.op(0, DROP, 0);
            x.op(0, GOTO, 0);
            x.op(0, INT, 3);
            x.op(0, RETURN, 0);
            x.op(0, RETURN, 0);
            x.handler(0, 0, end, end + 2, 0);
            due("join", x.join(0), 0);
            due("20 are enough", x.run(0, 20, 0, 0, 0), 0);
            due("made", x.told(2), 20);
            due("21 are not, and no HANDLER takes it", x.run(0, 21, 0, 0, 0), 9);
            due("made", x.told(2), 20);
            due("FAILURES", x.told(1), 0);
            due("answer", x.answer(), 0);
            due("each RUN has its own", x.run(0, 20, 0, 0, 0), 0);
        }
        runs(0, 77, 19, LOAD, 0, IFZERO, 9, INT, 30, INTS, 0, DROP, 0, LOAD, 0, INT, 1, REL, 1, GOTO, 21,
            INT, 30, INTS, 0, STORE, 1, LOAD, 1, INT, 29, INT, 77, PUT, 0, LOAD, 1, INT, 29, GET, 0, RETURN, 0,
            RETURN, 0, STORE, 0, GOTO, 0);
        KindJudge y = one(2, INT, 0, INTS, 0, DROP, 0, LOAD, 0, INT, 1, REL, 1, DUP, 0, STORE, 0, IFZERO, 10, GOTO, 0,
            LOAD, 1, INTS, 0, LENGTH, 0, RETURN, 0);
        y.join(0);
        due("below 0 with no ROOM left", y.run(0, 20, -1, 0, 0), 5);
        due("no ROOM left", y.run(0, 20, 1, 0, 0), 9);
    }

    private static void numbers() {
        part = "numbers";
        int[][] pairs = {{7, 2}, {-7, 2}, {7, -2}, {Integer.MIN_VALUE, -1}, {Integer.MAX_VALUE, Integer.MAX_VALUE},
            {Integer.MIN_VALUE, 1}, {0, 5}, {123456789, 987654321}};
        for (int[] p : pairs) {
            int[] want = {p[0] + p[1], p[0] - p[1], p[0] * p[1], p[0] / p[1], p[0] % p[1]};
            for (int a = 0; a < 5; a++) {
                runs(0, want[a], p[0], LOAD, 0, INT, p[1], REL, a, RETURN, 0);
            }
        }
        long[][] longs = {{1L << 40, 3}, {Long.MIN_VALUE, -1}, {-(1L << 40), 1L << 33}, {Long.MAX_VALUE, 2}};
        for (long[] p : longs) {
            long[] want = {p[0] + p[1], p[0] - p[1], p[0] * p[1], p[0] / p[1], p[0] % p[1]};
            for (int a = 0; a < 5; a++) {
                runs(0, (int) want[a], 0, LONG, p[0], LONG, p[1], RELL, a, TOINT, 0, RETURN, 0);
                runs(0, (int) (want[a] / 65536), 0, LONG, p[0], LONG, p[1], RELL, a, LONG, 65536, RELL, 3, TOINT, 0,
                    RETURN, 0);
            }
            runs(0, p[0] < p[1] ? 1 : 0, 0, LONG, p[0], LONG, p[1], LESS, 0, RETURN, 0);
            runs(0, p[0] > p[1] ? 1 : 0, 0, LONG, p[1], LONG, p[0], LESS, 0, RETURN, 0);
            runs(0, 0, 0, LONG, p[0], LONG, p[0], LESS, 0, RETURN, 0);
        }
        runs(0, 5, 0, INT, (1L << 32) + 5, RETURN, 0);
        runs(0, -1, 0, INT, 0xffffffffL, RETURN, 0);
        runs(0, -1, -1, LOAD, 0, TOLONG, 0, LONG, 0, RELL, 0, LONG, 1L << 20, RELL, 2, LONG, 1L << 20, RELL, 3,
            TOINT, 0, RETURN, 0);
        runs(0, 1, -1, LOAD, 0, TOLONG, 0, LONG, 0, LESS, 0, RETURN, 0);
        runs(0, 8, 0, LONG, 8, STOREL, 6, LONG, 9, STOREL, 4, LOADL, 6, TOINT, 0, RETURN, 0);
    }

    private static void objects() {
        part = "objects";
        int[] worths = {0, 6, 12, 16, 107, 105};
        int[] atFirst = {0, 1, 2, 11, 92, 100};
        int[] under = {1, 3, 7, 75, 215, 163};
        for (int c = 1; c <= 5; c++) {
            runs(0, worths[c], 5, NEW, c, DUP, 0, MADE, c, DUP, 0, LOAD, 0, SETFIELD, 0, WORTH, 0, RETURN, 0);
            runs(0, atFirst[c], 5, NEW, c, DUP, 0, MADE, c, WORTH, 0, RETURN, 0);
            runs(0, 0, 5, NEW, c, DUP, 0, MADE, c, FIELD, 0, RETURN, 0);
            runs(0, 5, 5, NEW, c, DUP, 0, MADE, c, DUP, 0, LOAD, 0, SETFIELD, 0, FIELD, 0, RETURN, 0);
            for (int a = 0; a <= 7; a++) {
                int is = under[c] >> a & 1;
                runs(0, is, 0, NEW, c, DUP, 0, MADE, c, IS, a, RETURN, 0);
                runs(is == 1 ? 0 : 4, is == 1 ? 9 : 4, 0, NEW, c, DUP, 0, MADE, c, CAST, a, DROP, 0, INT, 9, RETURN, 0);
            }
        }
        for (int a = 0; a <= 7; a++) {
            runs(0, 0, 0, NULL, 0, IS, a, RETURN, 0);
            runs(0, a == 0 ? 1 : 0, 0, INT, 1, INTS, 0, IS, a, RETURN, 0);
            runs(0, a == 0 ? 1 : 0, 0, INT, 1, ROW, 1, IS, a, RETURN, 0);
        }
        runs(0, Integer.MIN_VALUE, Integer.MAX_VALUE, NEW, 1, DUP, 0, MADE, 1, DUP, 0, LOAD, 0, SETFIELD, 0, WORTH, 0,
            RETURN, 0);
        runs(0, 8, 8, INT, 3, INTS, 0, DUP, 0, INT, 1, LOAD, 0, PUT, 0, INT, 1, GET, 0, RETURN, 0);
        runs(0, 0, 8, INT, 3, INTS, 0, DUP, 0, INT, 1, LOAD, 0, PUT, 0, INT, 2, GET, 0, RETURN, 0);
        runs(0, 1, 0, INT, 3, ROW, 1, INT, 2, TAKE, 0, IFNULL, 7, INT, 0, RETURN, 0, INT, 1, RETURN, 0);
        runs(0, 2, 0, INT, 3, INTS, 0, IFNULL, 5, INT, 2, RETURN, 0, INT, 1, RETURN, 0);
        runs(0, 1, 0, LOAD, 0, IFZERO, 4, INT, 2, RETURN, 0, INT, 1, RETURN, 0);
        runs(0, 2, 3, LOAD, 0, IFZERO, 4, INT, 2, RETURN, 0, INT, 1, RETURN, 0);
        runs(0, 3, 0, INT, 5, INT, 2, SWAP, 0, REL, 1, INT, 0, SWAP, 0, REL, 1, RETURN, 0);
    }

    private static void promise13() {
        part = "13";
        KindJudge x = one(1, LOAD, 0, IFZERO, 4, LOAD, 0, RETURN, 0, NULL, 0, LENGTH, 0, RETURN, 0);
        due("before one", x.answer(), 0);
        x.join(0);
        x.run(0, 42, 0, 0, 0);
        due("returned", x.answer(), 42);
        x.run(3, 42, 0, 0, 0);
        due("BAD changes nothing", x.answer(), 42);
        x.run(0, 0, 0, 0, 0);
        due("the number of its FAILURE", x.answer(), 1);
        x.op(0, 0, 0);
        due("answer stays", x.answer(), 1);
        x = one(1, LOAD, 0, FAIL, 0);
        x.handler(0, 1, 2, 0, 0);
        due("two depths", x.join(0), 2);
        x = one(1, LOAD, 0, FAIL, 0, DROP, 0, GOTO, 0);
        x.handler(0, 1, 2, 2, 0);
        x.join(0);
        due("the 13th", x.run(0, 66, 0, 0, 0), 10);
        due("of 7 the INT", x.answer(), 66);
    }

    private static void promise14() {
        part = "14";
        KindJudge x = one(1, INT, 1, INTS, 0, LOAD, 0, GET, 0, RETURN, 0, DROP, 0, INT, 1, LOAD, 0, REL, 3, RETURN, 0);
        x.handler(0, 3, 4, 5, 0);
        x.join(0);
        due("-1", x.told(-1), BAD);
        due("5", x.told(5), BAD);
        due("run", x.run(0, 1, 0, 0, 0), 0);
        due("instructions", x.told(0), 9);
        due("FAILURES", x.told(1), 1);
        due("made", x.told(2), 1);
        due("METHOD", x.told(3), 0);
        due("instruction", x.told(4), 3);
        due("run", x.run(0, 0, 0, 0, 0), 0);
        due("FAILURES", x.told(1), 0);
        due("METHOD", x.told(3), NONE);
        due("instruction", x.told(4), NONE);
        due("run", x.run(0, -1, 0, 0, 0), 0);
        due("FAILURES", x.told(1), 1);
        x = one(1, LOAD, 0, LENGTH, 0, RETURN, 0);
        x.join(0);
        x = one(0, NULL, 0, LENGTH, 0, RETURN, 0, INT, 0, REL, 3, RETURN, 0);
        x.handler(0, 1, 2, 3, 1);
        x.join(0);
        due("a second one", x.run(0, 0, 0, 0, 0), 6);
        due("both arose", x.told(1), 2);
        due("the last one", x.told(4), 4);
    }

    private static void promise15() {
        part = "15";
        KindJudge x = one(0, INT, 1, RETURN, 0);
        add(x, 0, INT, 1);
        x.handler(1, 0, 1, 0, 0);
        due("METHODS", x.count(0, -5), 2);
        due("INSTRUCTIONS", x.count(1, 0), 2);
        due("INSTRUCTIONS", x.count(1, 1), 1);
        due("HANDLERS", x.count(2, 0), 0);
        due("HANDLERS", x.count(2, 1), 1);
        due("right", x.count(3, 0), 0);
        x.judge(0);
        due("right", x.count(3, 0), 1);
        due("right", x.count(3, 1), 0);
        due("what", x.count(-1, 0), BAD);
        due("what", x.count(4, 0), BAD);
        for (int what = 1; what <= 3; what++) {
            due("no such METHOD", x.count(what, 2), BAD);
            due("no such METHOD", x.count(what, -1), BAD);
        }
    }
}
