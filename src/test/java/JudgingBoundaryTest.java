/** The sentences that name boundary cases of judging by FRAMES and of joining (part 3 of the document's terms). */
public final class JudgingBoundaryTest extends Built {
    public static void main(String[] args) {
        firstByFrames();
        placeByPlace();
        sameDepth();
        goesOnWithFrame();
        nothingComesWithoutFrame();
        leadsToFrame();
        leavesGoThere();
        handlerThere();
        handlerFrame();
        handlerLocals();
        handlerOwnFrame();
        everyHandler();
        behindTheLastByFrames();
        firstWrongByFrames();
        firstByJoin();
        inOrder();
        handlerNotThere();
        behindTheLastByJoin();
        firstTimeThenJoined();
        joinedPlaceByPlace();
        nothingBehindTheDepth();
        oneFurtherEachRound();
        twoDepths();
        untilNothingChanges();
        manyRounds();
        firstWrongMet();
        framesCountForNothing();
        notLookedAt();
        Check.end();
    }

    private static void firstByFrames() {
        part = "At the first one the params are INTS, else TOP, the stack is empty";
        for (int params = 0; params <= 4; params++) {
            KindJudge x = one(params, INT, 0, RETURN, 0);
            due("judge", x.judge(0), 0);
            due("the stack", x.kind(0, 8), NONE);
            for (int local = 0; local < 8; local++) {
                due("local " + local, x.kind(0, local), local < params ? 1 : 0);
                KindJudge y = one(params, INT, 0, RETURN, 0);
                y.frame(0, 0, 0);
                y.set(0, 0, local, 1);
                due("a FRAME with INT in " + local + " of " + params, y.judge(0), local < params ? 0 : 1);
            }
            x.frame(0, 0, 1);
            due("a FRAME with a place on the stack", x.judge(0), 1);
        }
    }

    /** A METHOD at whose instruction 12 there are 8 NULLS in LOCALS and 4 INTS and 4 NULLS on the stack. */
    private static KindJudge full() {
        KindJudge x = one(0, NULL, 0, STORE, 0, NULL, 0, STORE, 1, NULL, 0, STORE, 2, NULL, 0, STORE, 3, NULL, 0, STORE, 4,
            NULL, 0, STORE, 5, NULL, 0, STORE, 6, NULL, 0, STORE, 7, INT, 0, INT, 0, INT, 0, INT, 0, NULL, 0, NULL, 0,
            NULL, 0, NULL, 0, DROP, 0, GOTO, 25);
        x.frame(0, 24, 8);
        x.frame(0, 25, 7);
        return x;
    }

    private static void placeByPlace() {
        part = "At one with a FRAME: what comes to it (if something does) must GO to it, place by place";
        for (int place = 0; place < 16; place++) {
            boolean isInt = place >= 8 && place < 12;
            for (int kind : SOME_KINDS) {
                KindJudge x = full();
                x.set(0, 24, 15, 4);
                due("set", x.set(0, 24, place, kind), place == 15 ? 4 : 0);
                boolean goes = isInt ? kind <= 1 : kind == 0 || kind >= 4 && kind <= 25;
                // the DROP at 24 pops what the FRAME tells in place 15
                boolean usable = place < 15 || kind != 0;
                due("KIND " + kind + " in place " + place, x.judge(0), goes && usable ? 0 : 25);
                due("kind", x.kind(24, place), goes ? kind : NONE);
            }
        }
    }

    private static void sameDepth() {
        part = ".. with the same depth";
        for (int depth = 0; depth <= 8; depth++) {
            for (int told = 0; told <= 8; told++) {
                KindJudge x = one(0, both(times(depth, NULL, 0), GOTO, depth));
                x.frame(0, depth, told);
                due("a FRAME of " + told + " places, " + depth + " come", x.judge(0), depth == told ? 0 : depth + 1);
            }
        }
    }

    private static void goesOnWithFrame() {
        part = "it goes on with the FRAME";
        KindJudge x = one(1, LOAD, 0, NULL, 0, CAST, 4, WORTH, 0, REL, 0, RETURN, 0);
        due("without", x.judge(0), 0);
        x.frame(0, 3, 2);
        x.set(0, 3, 8, 1);
        x.set(0, 3, 9, 10);
        due("ROOT has no WORTH", x.judge(0), 4);
        due("what the FRAME tells", x.kind(3, 9), 10);
        x.set(0, 3, 9, 11);
        x.set(0, 3, 8, 0);
        due("TOP is no INT", x.judge(0), 5);
        due("what the FRAME told", x.kind(4, 8), 0);
        part = "(if something does)";
        x = one(0, GOTO, 2, RETURN, 0, GOTO, 2);
        x.frame(0, 2, 0);
        x.frame(0, 1, 8);
        x.set(0, 1, 15, 1);
        due("nothing comes, so the FRAME tells what it likes", x.judge(0), 0);
        due("kind", x.kind(1, 15), 1);
    }

    private static void nothingComesWithoutFrame() {
        part = "One to which nothing comes, without a FRAME, is WRONG";
        long[][] stops = {{GOTO, 0}, {RETURN, 0}, {FAIL, 0}};
        for (long[] stop : stops) {
            boolean leads = stop[0] == GOTO;
            KindJudge x = one(0, leads ? GOTO : INT, 1, stop[0], stop[1], GOTO, 0);
            x.frame(0, 0, 0);
            x.frame(0, 1, leads ? 0 : 1);
            x.set(0, 1, 8, 1);
            due("without", x.judge(0), 3);
            due("nothing", x.kind(2, 0), NONE);
            x.frame(0, 2, 0);
            due("with", x.judge(0), 0);
            due("kind", x.kind(2, 0), 0);
            x.frame(0, 2, -1);
            due("without again", x.judge(0), 3);
        }
    }

    private static void leadsToFrame() {
        part = "What an instruction leads to by a (29 to 31) must have a FRAME";
        long[][] leaders = {{GOTO, INT}, {IFZERO, INT}, {IFNULL, NULL}};
        for (long[] leader : leaders) {
            int left = leader[0] == GOTO ? 1 : 0;
            KindJudge x = one(0, leader[1], 0, leader[0], 3, left == 1 ? DROP : NULL, 0, GOTO, 3);
            x.frame(0, 2, left);
            if (left == 1) {
                x.set(0, 2, 8, 1);
            }
            due("without", x.judge(0), 2);
            x.frame(0, 3, left);
            // what falls to 3 has another depth than what leads there
            due("with", x.judge(0), 4);
            x.frame(0, 3, 1 - left);
            due("two depths", x.judge(0), 2);
            x.frame(0, 3, 8);
            due("two depths", x.judge(0), 2);
            x.frame(0, 3, -1);
            due("none any more", x.judge(0), 2);
        }
        KindJudge back = one(0, NULL, 0, DROP, 0, GOTO, 0);
        due("back to 0, without", back.judge(0), 3);
        back.frame(0, 0, 0);
        due("back to 0, with", back.judge(0), 0);
        part = "What .. leads to by a (29 to 31): no other instruction needs one";
        for (int op = 0; op <= 34; op++) {
            if (op < GOTO || op > IFNULL) {
                KindJudge x = one(0, GOTO, 3, op, 1, -1, 0, NEW, 1, GOTO, 3);
                x.frame(0, 3, 0);
                x.frame(0, 1, 0);
                int verdict = x.judge(0);
                boolean pushes = op <= NULL || op == NEW;
                due("op " + op, verdict, pushes ? 3 : 2);
            }
        }
    }

    private static void leavesGoThere() {
        part = ".. a FRAME to which what it leaves GOES";
        for (int place = 0; place < 9; place++) {
            for (int kind : SOME_KINDS) {
                KindJudge x = one(1, LOAD, 0, NULL, 0, IFNULL, 4, GOTO, 4, RETURN, 0);
                x.frame(0, 4, 1);
                x.set(0, 4, 8, 1);
                x.set(0, 4, place, kind);
                boolean isInt = place == 0 || place == 8;
                boolean goes = kind == 0 || isInt && kind == 1;
                boolean returns = place < 8 || kind == 1;
                due("KIND " + kind + " in place " + place, x.judge(0), !goes ? 3 : returns ? 0 : 5);
            }
        }
    }

    /** A METHOD whose instruction 3 is covered; INT and INTS come to it in locals 0 and 1, its FRAME tells TOP. */
    private static KindJudge covered(int at) {
        KindJudge x = one(1, LOAD, 0, INTS, 0, STORE, 1, GOTO, 3, RETURN, 0);
        x.frame(0, 3, 0);
        x.frame(0, 4, 1);
        x.set(0, 4, 8, 1);
        x.handler(0, 3, 4, at, 5);
        return x;
    }

    private static void handlerThere() {
        part = "Of each HANDLER that covers it the instruction at must be there";
        due("there", covered(4).judge(0), 0);
        int[] none = {5, 6, 39};
        for (int at : none) {
            KindJudge x = covered(at);
            due("not there", x.judge(0), 4);
            x.frame(0, at, 1);
            due("not there, with a FRAME", x.judge(0), 4);
            x.set(0, at, 8, 1);
            due("not there, with a FRAME", x.judge(0), 4);
        }
    }

    private static void handlerFrame() {
        part = "and have a FRAME with one place on the stack, .. and INT to that place";
        KindJudge x = covered(4);
        x.frame(0, 4, -1);
        due("no FRAME", x.judge(0), 4);
        for (int depth = 0; depth <= 8; depth++) {
            x.frame(0, 4, depth);
            // with one place that is TOP the HANDLER itself is right, but RETURN is not
            due(depth + " places", x.judge(0), depth == 1 ? 5 : 4);
        }
        for (int kind : SOME_KINDS) {
            x = covered(4);
            x.set(0, 4, 8, kind);
            due("KIND " + kind, x.judge(0), kind == 1 ? 0 : kind == 0 ? 5 : 4);
        }
    }

    private static void handlerLocals() {
        part = "to whose LOCALS those that come to it .. GO";
        for (int local = 0; local < 8; local++) {
            for (int kind : SOME_KINDS) {
                KindJudge x = covered(4);
                x.set(0, 3, 0, 1);
                x.set(0, 3, 1, 5);
                x.set(0, 4, local, kind);
                boolean goes = kind == 0 || local == 0 && kind == 1
                    || local == 1 && (kind == 5 || kind == 10 || kind == 16 || kind == 17);
                due("KIND " + kind + " in " + local, x.judge(0), goes ? 0 : 4);
            }
        }
        // those that come, not those that it leaves
        KindJudge x = one(0, INT, 0, STORE, 0, LOAD, 0, RETURN, 0, RETURN, 0);
        x.frame(0, 4, 1);
        x.set(0, 4, 8, 1);
        x.set(0, 4, 0, 1);
        x.handler(0, 2, 3, 4, 0);
        due("behind STORE", x.judge(0), 0);
        x.handler(0, 1, 2, 4, 0);
        due("STORE itself", x.judge(0), 2);
    }

    private static void handlerOwnFrame() {
        part = "(with its own FRAME: that one's)";
        KindJudge x = covered(4);
        x.set(0, 4, 0, 1);
        due("its FRAME tells TOP", x.judge(0), 4);
        x.set(0, 3, 0, 1);
        due("its FRAME tells INT", x.judge(0), 0);
        due("the stack that comes to it counts for nothing", stackAhead().judge(0), 0);
    }

    private static KindJudge stackAhead() {
        KindJudge x = one(0, LONG, 0, NULL, 0, NEW, 1, DROP, 0, DROP, 0, TOINT, 0, RETURN, 0, RETURN, 0);
        x.frame(0, 7, 1);
        x.set(0, 7, 8, 1);
        x.handler(0, 0, 7, 7, 0);
        return x;
    }

    private static void everyHandler() {
        part = "Of each HANDLER that covers it";
        for (int bad = 0; bad < 6; bad++) {
            KindJudge x = one(0, GOTO, 1, INT, 0, RETURN, 0, RETURN, 0, RETURN, 0);
            x.frame(0, 1, 0);
            x.frame(0, 3, 1);
            x.set(0, 3, 8, 1);
            x.frame(0, 4, 1);
            x.set(0, 4, 8, 1);
            x.set(0, 4, 5, 1);
            for (int i = 0; i < 6; i++) {
                x.handler(0, 1, 2, i == bad ? 4 : 3, 1);
            }
            due("number " + bad, x.judge(0), 2);
            x.set(0, 4, 5, 0);
            due("all six fit", x.judge(0), 0);
        }
    }

    private static void behindTheLastByFrames() {
        part = "behind the last one: that number, if something comes there";
        for (int size = 0; size <= 40; size++) {
            KindJudge x = new KindJudge();
            x.method(2);
            for (int i = 0; i < size; i++) {
                x.op(0, i % 2 == 0 ? NULL : DROP, 0);
            }
            due(size + " instructions", x.judge(0), 1 + size);
            due("what came to the last one", x.kind(size - 1, 0), size > 0 ? 1 : NONE);
            due("there is no such instruction", x.kind(size, 0), NONE);
            if (size < 40) {
                x.frame(0, size, size % 2);
                due("with a FRAME where none is", x.judge(0), 1 + size);
                due("there is no such instruction", x.kind(size, 0), NONE);
            }
        }
        long[][] stops = {{GOTO, 1}, {RETURN, 0}, {FAIL, 0}};
        for (long[] stop : stops) {
            KindJudge x = one(0, INT, 0, stop[0], stop[1]);
            x.frame(0, 1, 1);
            x.set(0, 1, 8, 1);
            due("nothing comes there", x.judge(0), 0);
        }
        KindJudge x = one(0, INT, 0, IFZERO, 0);
        x.frame(0, 0, 0);
        due("it leads back, and something comes there", x.judge(0), 3);
    }

    private static void firstWrongByFrames() {
        part = "1 and the first WRONG instruction (by FRAMES)";
        for (int at = 0; at < 40; at++) {
            KindJudge x = new KindJudge();
            x.method(0);
            for (int i = 0; i < 40; i++) {
                x.op(0, i == at || i == 39 ? -1 : i % 2 == 0 ? NULL : DROP, 0);
            }
            due("the first one", x.judge(0), 1 + at);
            due("ahead of it", x.kind(at, 0), 0);
            due("behind it", x.kind(at + 1, 0), NONE);
            due("the first one", x.join(0), 1 + at);
        }
    }

    private static void firstByJoin() {
        part = "JOINED: what comes to each instruction; at first to 0 alone, as told";
        for (int params = 0; params <= 4; params++) {
            KindJudge x = one(params, -1, 0, NULL, 0);
            due("join", x.join(0), 1);
            for (int local = 0; local < 8; local++) {
                due("local " + local, x.kind(0, local), local < params ? 1 : 0);
                due("to 0 alone", x.kind(1, local), NONE);
            }
            due("the stack", x.kind(0, 8), NONE);
        }
    }

    private static void inOrder() {
        part = "what each leaves comes to the next one, to where it leads, and .. to the HANDLERS .. in this order";
        // 1 leads to itself with another depth: its HANDLER's gets nothing, the next one does
        KindJudge x = one(0, INT, 0, IFZERO, 1, NULL, 0, RETURN, 0);
        x.handler(0, 1, 2, 3, 0);
        due("two depths", x.join(0), 2);
        due("the next one", x.kind(2, 0), 0);
        due("the HANDLER's", x.kind(3, 8), NONE);
        // the first HANDLER's is not there: the second one gets nothing
        x = one(0, NULL, 0, GOTO, 1, RETURN, 0);
        x.handler(0, 0, 1, 5, 0);
        x.handler(0, 0, 1, 2, 0);
        due("not there", x.join(0), 1);
        due("the next one", x.kind(1, 8), 4);
        due("the second HANDLER's", x.kind(2, 8), NONE);
        x = one(0, NULL, 0, GOTO, 1, RETURN, 0);
        x.handler(0, 0, 1, 2, 0);
        x.handler(0, 0, 1, 5, 0);
        due("not there", x.join(0), 1);
        due("the first HANDLER's", x.kind(2, 8), 1);
    }

    private static void handlerNotThere() {
        part = "(WRONG, if that one is not there";
        for (int at = 0; at < 40; at++) {
            KindJudge x = one(0, GOTO, 3, -1, 0, -1, 0, INT, 0, RETURN, 0, RETURN, 0);
            x.handler(0, 3, 4, at, 0);
            // 0, 3 have no place on the stack; 4 and 5 have one
            int want = at == 4 || at == 5 ? 0 : at == 1 || at == 2 ? 1 + at : 4;
            due("HANDLER at " + at, x.join(0), want);
        }
        KindJudge x = one(0, GOTO, 3, -1, 0, -1, 0, INT, 0, RETURN, 0);
        x.handler(0, 1, 3, 39, 0);
        due("what it covers is not come to", x.join(0), 0);
    }

    private static void behindTheLastByJoin() {
        part = "behind the last instruction likewise)";
        due("without instructions", one(4).join(0), 1);
        for (int size = 1; size <= 40; size++) {
            KindJudge x = new KindJudge();
            x.method(0);
            for (int i = 0; i < size; i++) {
                x.op(0, i % 2 == 0 ? NULL : DROP, 0);
            }
            due(size + " instructions", x.join(0), size);
            due("in the first ROUND", x.rounds(), 1);
            due("what came to the last one", x.kind(size - 1, 0), 0);
            due("there is no such instruction", x.kind(size, 0), NONE);
        }
        joins(0, INT, 0, RETURN, 0);
        joins(0, INT, 0, FAIL, 0);
        joins(0, INT, 0, GOTO, 1);
        joins(2, INT, 0, IFZERO, 0);
        joins(2, NULL, 0, IFNULL, 0);
    }

    private static void firstTimeThenJoined() {
        part = "the first time it is what comes there, then JOINED place by place";
        for (int first = 1; first <= 5; first++) {
            for (int then = 1; then <= 5; then++) {
                KindJudge x = one(1, NULL, 0, CAST, first, DUP, 0, STORE, 1, NULL, 0, CAST, then, STORE, 2, LOAD, 0, IFZERO,
                    13, DROP, 0, LOAD, 2, LOAD, 2, STORE, 1, WORTH, 0, RETURN, 0);
                // 8 leads to 13, and 12 falls to it
                due("join", x.join(0), 0);
                int both = new KindJudge().kinds(10 + first, 10 + then, false);
                due("the stack of " + first + ", " + then, x.kind(13, 8), both);
                due("local 1 of " + first + ", " + then, x.kind(13, 1), both);
                due("local 2", x.kind(13, 2), 10 + then);
                due("local 0", x.kind(13, 0), 1);
                due("one way alone", x.kind(9, 8), 10 + first);
            }
        }
    }

    private static void joinedPlaceByPlace() {
        part = "then JOINED place by place";
        for (int local = 0; local < 8; local++) {
            KindJudge x = one(0, NULL, 0, STORE, 0, NULL, 0, STORE, 1, NULL, 0, STORE, 2, NULL, 0, STORE, 3, NULL, 0, STORE,
                4, NULL, 0, STORE, 5, NULL, 0, STORE, 6, NULL, 0, STORE, 7, INT, 0, IFZERO, 20, INT, 0, STORE, local,
                GOTO, 20);
            due("join", x.join(0), 0);
            for (int place = 0; place < 8; place++) {
                due("local " + place + ", INT or NULL in " + local, x.kind(20, place), place == local ? 0 : 4);
            }
        }
        for (int above = 0; above < 8; above++) {
            int meet = above + 5;
            KindJudge x = one(0, both(times(above, NULL, 0), INT, 0, IFZERO, meet - 1, NULL, 0, GOTO, meet, INT, 0));
            append(x, 0, both(times(7 - above, NULL, 0), GOTO, meet + 7 - above));
            due("join", x.join(0), 0);
            for (int place = 0; place < 8; place++) {
                due("place " + place + " of the stack, INT or NULL in " + above, x.kind(meet + 7 - above, 8 + place),
                    place == above ? 0 : 4);
            }
        }
    }

    private static void nothingBehindTheDepth() {
        part = "Until a ROUND changes nothing: what has been popped is nothing";
        // INT was popped on the way to 2 in the first ROUND, NULL on the way there by 3 in the second one
        rounds(2, INT, 0, IFZERO, 4, GOTO, 2, GOTO, 2, NULL, 0, DROP, 0, GOTO, 3);
    }

    private static void oneFurtherEachRound() {
        part = "Until a ROUND changes nothing: a change by JOIN alone takes another ROUND";
        // locals 1 .. 4 are D; each time round one more of them gets B from the next one
        KindJudge x = one(1, NULL, 0, CAST, 4, DUP, 0, STORE, 1, DUP, 0, STORE, 2, DUP, 0, STORE, 3, STORE, 4, LOAD, 2, STORE,
            1, LOAD, 3, STORE, 2, LOAD, 4, STORE, 3, NULL, 0, CAST, 2, STORE, 4, LOAD, 0, IFZERO, 9, LOAD, 1, WORTH, 0,
            RETURN, 0);
        due("join", x.join(0), 0);
        for (int local = 1; local <= 4; local++) {
            due("local " + local, x.kind(9, local), 12);
        }
        // the first four bring 4, 3, 2, 1 back to 9, the fifth one brings 1 on to 10, the sixth one changes nothing
        due("rounds", x.rounds(), 6);
    }

    private static void twoDepths() {
        part = "(two depths: WRONG is the one that leaves it)";
        joins(3, INT, 0, IFZERO, 3, NULL, 0, GOTO, 3);
        joins(4, INT, 0, IFZERO, 4, NULL, 0, GOTO, 4, GOTO, 4);
        joins(2, NULL, 0, GOTO, 0);
        joins(3, GOTO, 1, NULL, 0, GOTO, 1);
        joins(2, INT, 0, IFZERO, 1, GOTO, 2);
        joins(5, INT, 0, IFZERO, 4, INT, 0, GOTO, 5, LONG, 0, GOTO, 5);
        KindJudge x = one(0, NULL, 0, NULL, 0, GOTO, 2);
        x.handler(0, 1, 2, 2, 0);
        due("by a HANDLER: the one that it covers", x.join(0), 2);
        x = one(0, NULL, 0, GOTO, 1);
        x.handler(0, 1, 2, 0, 0);
        due("by a HANDLER at 0", x.join(0), 2);
        x = one(0, NULL, 0, DROP, 0, INT, 0, GOTO, 3);
        x.handler(0, 0, 1, 3, 0);
        due("one place each", x.join(0), 0);
        due("INT and INT", x.kind(3, 8), 1);
    }

    private static void rounds(int want, long... opsAndAs) {
        KindJudge x = one(0, opsAndAs);
        due("join", x.join(0), 0);
        due("rounds", x.rounds(), want);
    }

    private static void untilNothingChanges() {
        part = "Until a ROUND changes nothing";
        rounds(1, GOTO, 0);
        rounds(2, INT, 0, RETURN, 0);
        rounds(2, GOTO, 1, GOTO, 2, GOTO, 3, GOTO, 0);
        // 2 is gone through in the first ROUND, 1 in the second one, which changes nothing
        rounds(2, GOTO, 2, GOTO, 1, GOTO, 1);
        rounds(3, GOTO, 3, GOTO, 1, GOTO, 1, GOTO, 2);
        part = "rounds: How many ROUNDS the latest join() went, 0 before one";
        KindJudge x = one(0, GOTO, 3, GOTO, 1, GOTO, 1, GOTO, 2);
        due("before one", x.rounds(), 0);
        x.judge(0);
        due("judge() is none", x.rounds(), 0);
        x.join(0);
        due("the latest", x.rounds(), 3);
        x.join(1);
        due("a refused one", x.rounds(), 3);
        x.judge(0);
        due("judge() is none", x.rounds(), 3);
        add(x, 0, GOTO, 0);
        x.join(1);
        due("the latest", x.rounds(), 1);
        x.method(0);
        x.join(2);
        due("without instructions", x.rounds(), 0);
        x.join(0);
        due("again", x.rounds(), 3);
    }

    private static void manyRounds() {
        part = "ROUNDS: all instructions to which something comes, in order, are gone through";
        // 0 leads to the last one, each one to the one before it: the first ROUND comes to 39 and 38, each one further on
        KindJudge x = new KindJudge();
        x.method(0);
        x.op(0, GOTO, 39);
        for (int at = 1; at < 40; at++) {
            x.op(0, GOTO, at == 1 ? 1 : at - 1);
        }
        due("join", x.join(0), 0);
        due("38 come from 38 to 1, and one changes nothing", x.rounds(), 39);
        due("came to", x.kind(1, 0), 0);
        // what is WRONG comes only in the last of them
        x = new KindJudge();
        x.method(0);
        x.op(0, GOTO, 39);
        x.op(0, -1, 0);
        for (int at = 2; at < 40; at++) {
            x.op(0, GOTO, at - 1);
        }
        due("join", x.join(0), 2);
        due("the ROUND in which it is met counts", x.rounds(), 39);
    }

    private static void firstWrongMet() {
        part = "The first WRONG one that is met so is told";
        // 4 is met in the first ROUND, 2 would be in the second
        joins(5, GOTO, 3, -1, 0, -1, 0, GOTO, 4, -1, 0);
        joins(5, INT, 0, GOTO, 3, -1, 0, IFZERO, 2, -1, 0);
        joins(3, GOTO, 3, RETURN, 0, -1, 0, GOTO, 2);
        KindJudge x = one(0, GOTO, 3, -1, 0, -1, 0, INT, 0, IFZERO, 2, GOTO, 5);
        due("in the second ROUND", x.join(0), 3);
        due("rounds", x.rounds(), 2);
    }

    private static void framesCountForNothing() {
        part = "(FRAMES count for nothing.)";
        KindJudge x = one(1, LOAD, 0, IFZERO, 3, GOTO, 3, LOAD, 0, RETURN, 0);
        for (int at = 0; at < 40; at++) {
            x.frame(0, at, 8);
            x.set(0, at, 0, 3);
        }
        due("join", x.join(0), 0);
        due("kind", x.kind(3, 0), 1);
        due("the stack", x.kind(3, 8), NONE);
        due("found right", x.count(3, 0), 1);
        due("judge", x.judge(0), 1);
    }

    private static void notLookedAt() {
        part = "What never comes to is not looked at";
        for (int op = -2; op <= 36; op++) {
            KindJudge x = one(0, INT, 3, RETURN, 0, op, -5, op, 77);
            x.handler(0, 2, 4, 39, 0);
            due("join with op " + op, x.join(0), 0);
            due("kind", x.kind(2, 0), NONE);
            due("rounds", x.rounds(), 2);
            due("judge", x.judge(0), 3);
        }
    }
}
