/** The sentences that name boundary cases of a RUN (part 4 of the document's terms). */
public final class RunBoundaryTest extends Built {
    /** 7 instructions as often as the first param says, one ahead of them; LOAD and IFZERO then leave for 8. */
    private static final long[] LOOP = {GOTO, 1, LOAD, 0, IFZERO, 8, LOAD, 0, INT, 1, REL, 1, STORE, 0, GOTO, 1};

    public static void main(String[] args) {
        foundRight();
        allThatItCalls();
        ofNull();
        index();
        indexOfEmpty();
        store();
        cast();
        size();
        byZero();
        itsOwn();
        firstOfThree();
        firstHandler();
        whatIsItsNumber();
        stackOfHandler();
        methodIsLeft();
        sevenDeep();
        spent();
        spentAndOther();
        thirteenth();
        thirteenthNotHandled();
        room();
        roomOfItems();
        roomNotHandled();
        anew();
        stacksAreEmpty();
        paramsInOrder();
        castKeepsIt();
        Check.end();
    }

    private static void foundRight() {
        part = "of a METHOD that is found right (by either way, latest)";
        KindJudge x = one(0, INT, 3, RETURN, 0, NULL, 0);
        due("neither way", x.run(0, 0, 0, 0, 0), -2);
        due("join", x.join(0), 0);
        due("joined", x.run(0, 0, 0, 0, 0), 0);
        due("judge", x.judge(0), 3);
        due("the latest found it WRONG", x.run(0, 0, 0, 0, 0), -2);
        x.join(0);
        due("the latest found it right", x.run(0, 0, 0, 0, 0), 0);
        x = one(0, GOTO, 1, INT, 3, RETURN, 0);
        x.frame(0, 1, 0);
        due("judge", x.judge(0), 0);
        due("judged", x.run(0, 0, 0, 0, 0), 0);
        x = one(0, INT, 3, RETURN, 0);
        x.join(0);
        x.op(0, NULL, 0);
        due("op: not found right any more", x.run(0, 0, 0, 0, 0), -2);
        x.join(0);
        x.handler(0, 39, 40, 39, 0);
        due("handler: likewise", x.run(0, 0, 0, 0, 0), -2);
        x.join(0);
        x.frame(0, 39, 8);
        due("frame: likewise", x.run(0, 0, 0, 0, 0), -2);
        x.join(0);
        x.set(0, 39, 15, 0);
        due("set: likewise", x.run(0, 0, 0, 0, 0), -2);
        x.join(0);
        due("right again", x.run(0, 0, 0, 0, 0), 0);
        x.op(1, 0, 0);
        x.handler(0, 1, 1, 0, 0);
        x.frame(0, 40, 0);
        x.set(0, 39, 16, 0);
        due("refused calls change nothing", x.run(0, 0, 0, 0, 0), 0);
    }

    private static void allThatItCalls() {
        part = "and all that it calls, too";
        for (int bad = 0; bad < 8; bad++) {
            KindJudge x = new KindJudge();
            add(x, 0, INT, 3, RETURN, 0);
            for (int m = 1; m < 8; m++) {
                add(x, 0, INT, 3, RETURN, 0, CALL, m - 1, RETURN, 0);
            }
            for (int m = 0; m < 8; m++) {
                x.join(m);
            }
            for (int m = 0; m < 8; m++) {
                due("all are right", x.run(m, 0, 0, 0, 0), 0);
            }
            x.frame(bad, 0, -1);
            for (int m = 0; m < 8; m++) {
                due("METHOD " + bad + " is not found right, RUN " + m, x.run(m, 0, 0, 0, 0), m < bad ? 0 : -2);
            }
        }
    }

    private static void ofNull() {
        part = "1 null (17 to 20, 16, 23 to 25 of null)";
        runs(1, 1, 0, NULL, 0, LENGTH, 0, RETURN, 0);
        runs(1, 1, 0, NULL, 0, INT, 0, GET, 0, RETURN, 0);
        runs(1, 1, 0, NULL, 0, INT, 0, INT, 0, PUT, 0, INT, 0, RETURN, 0);
        runs(1, 1, 0, NULL, 0, INT, 0, TAKE, 0, DROP, 0, INT, 0, RETURN, 0);
        runs(1, 1, 0, NULL, 0, INT, 0, NULL, 0, GIVE, 0, INT, 0, RETURN, 0);
        runs(1, 1, 0, NULL, 0, FIELD, 0, RETURN, 0);
        runs(1, 1, 0, NULL, 0, INT, 0, SETFIELD, 0, INT, 0, RETURN, 0);
        runs(1, 1, 0, NULL, 0, WORTH, 0, RETURN, 0);
        // the item of a new ROW is null
        runs(1, 1, 0, INT, 1, ROW, 4, INT, 0, TAKE, 0, WORTH, 0, RETURN, 0);
        part = "null elsewhere is no FAILURE";
        runs(0, 0, 0, NULL, 0, IS, 0, RETURN, 0);
        runs(0, 3, 0, NULL, 0, CAST, 5, IFNULL, 5, INT, 0, RETURN, 0, INT, 3, RETURN, 0);
        runs(0, 3, 0, INT, 1, ROW, 3, INT, 0, NULL, 0, GIVE, 0, INT, 3, RETURN, 0);
    }

    private static void index() {
        part = "2 index";
        int[] indices = {Integer.MIN_VALUE, -1, 0, 1, 2, 3, Integer.MAX_VALUE};
        for (int i : indices) {
            int how = i >= 0 && i < 3 ? 0 : 2;
            int answer = how == 0 ? 9 : 2;
            runs(how, how == 0 ? 0 : 2, i, INT, 3, INTS, 0, LOAD, 0, GET, 0, RETURN, 0);
            runs(how, answer, i, INT, 3, INTS, 0, DUP, 0, LOAD, 0, INT, 9, PUT, 0, LOAD, 0, GET, 0, RETURN, 0);
            runs(how, answer, i, INT, 3, ROW, 1, LOAD, 0, TAKE, 0, DROP, 0, INT, 9, RETURN, 0);
            runs(how, answer, i, INT, 3, ROW, 1, LOAD, 0, NULL, 0, GIVE, 0, INT, 9, RETURN, 0);
        }
        part = "each item is its own";
        for (int i = 0; i < 30; i++) {
            runs(0, 0, i, INT, 30, INTS, 0, DUP, 0, LOAD, 0, INT, 9, PUT, 0, LOAD, 0, INT, 1, REL, 0, INT, 30, REL, 4,
                GET, 0, RETURN, 0);
            runs(0, 9, i, INT, 30, INTS, 0, DUP, 0, LOAD, 0, INT, 9, PUT, 0, LOAD, 0, GET, 0, RETURN, 0);
        }
    }

    private static void indexOfEmpty() {
        part = "an array of no items has no index";
        for (int i = -1; i <= 1; i++) {
            runs(2, 2, i, INT, 0, INTS, 0, LOAD, 0, GET, 0, RETURN, 0);
            runs(2, 2, i, INT, 0, INTS, 0, LOAD, 0, INT, 9, PUT, 0, INT, 9, RETURN, 0);
            runs(2, 2, i, INT, 0, ROW, 1, LOAD, 0, TAKE, 0, DROP, 0, INT, 9, RETURN, 0);
            runs(2, 2, i, INT, 0, ROW, 1, LOAD, 0, NULL, 0, GIVE, 0, INT, 9, RETURN, 0);
        }
        runs(0, 0, 0, LOAD, 0, INTS, 0, LENGTH, 0, RETURN, 0);
        runs(0, 0, 0, LOAD, 0, ROW, 3, LENGTH, 0, RETURN, 0);
    }

    private static void store() {
        part = "3 store (20: the ROW is of a class that the OBJECT is not UNDER, or is no OBJECT of it)";
        int[] under = {0, 0b00010, 0b00110, 0b01010, 0b10110, 0b100010};
        for (int row = 1; row <= 5; row++) {
            for (int c = 1; c <= 5; c++) {
                int how = (under[c] >> row & 1) == 1 ? 0 : 3;
                runs(how, 3, 0, INT, 1, ROW, row, INT, 0, NEW, c, DUP, 0, MADE, c, GIVE, 0, INT, 3, RETURN, 0);
            }
            runs(3, 3, 0, INT, 1, ROW, row, INT, 0, INT, 1, INTS, 0, GIVE, 0, INT, 3, RETURN, 0);
            runs(3, 3, 0, INT, 1, ROW, row, INT, 0, INT, 1, ROW, row, GIVE, 0, INT, 3, RETURN, 0);
            runs(0, 3, 0, INT, 1, ROW, row, INT, 0, NULL, 0, GIVE, 0, INT, 3, RETURN, 0);
        }
        // a ROW of D can stand where a ROW of B is asked for; what it is made of counts
        runs(3, 3, 0, LOAD, 0, IFZERO, 5, INT, 1, ROW, 2, GOTO, 7, INT, 1, ROW, 4, INT, 0, NEW, 2, DUP, 0, MADE, 2, GIVE,
            0, INT, 3, RETURN, 0);
        runs(0, 3, 1, LOAD, 0, IFZERO, 5, INT, 1, ROW, 2, GOTO, 7, INT, 1, ROW, 4, INT, 0, NEW, 2, DUP, 0, MADE, 2, GIVE,
            0, INT, 3, RETURN, 0);
    }

    private static void cast() {
        part = "4 cast (21)";
        for (int a = 0; a <= 7; a++) {
            int how = a == 0 ? 0 : 4;
            runs(how, 4, 0, INT, 1, INTS, 0, CAST, a, DROP, 0, INT, 4, RETURN, 0);
            runs(how, 4, 0, INT, 1, ROW, 1, CAST, a, DROP, 0, INT, 4, RETURN, 0);
            runs(0, 4, 0, NULL, 0, CAST, a, DROP, 0, INT, 4, RETURN, 0);
            runs(0, a == 0 ? 1 : 0, 0, INT, 1, INTS, 0, IS, a, RETURN, 0);
            runs(0, a == 0 ? 1 : 0, 0, INT, 1, ROW, 5, IS, a, RETURN, 0);
            runs(0, 0, 0, NULL, 0, IS, a, RETURN, 0);
        }
    }

    private static void size() {
        part = "5 size (14, 15 below 0)";
        int[] sizes = {Integer.MIN_VALUE, -1000, -1, 0, 1};
        for (int n : sizes) {
            runs(n < 0 ? 5 : 0, n < 0 ? 5 : n, n, LOAD, 0, INTS, 0, LENGTH, 0, RETURN, 0);
            runs(n < 0 ? 5 : 0, n < 0 ? 5 : n, n, LOAD, 0, ROW, 2, LENGTH, 0, RETURN, 0);
        }
        KindJudge x = one(1, LOAD, 0, INTS, 0, LENGTH, 0, RETURN, 0);
        x.join(0);
        x.run(0, -1, 0, 0, 0);
        due("nothing is made", x.told(2), 0);
    }

    private static void byZero() {
        part = "6 by 0 (7, 8 with / or %)";
        for (int a = 0; a <= 4; a++) {
            int how = a >= 3 ? 6 : 0;
            int answer = a >= 3 ? 6 : a == 2 ? 0 : 5;
            runs(how, answer, 0, INT, 5, LOAD, 0, REL, a, RETURN, 0);
            runs(how, answer, 0, LONG, 5, LOAD, 0, TOLONG, 0, RELL, a, TOINT, 0, RETURN, 0);
            // what is 0 in its lowest bits alone is not 0
            runs(0, a == 3 ? 0 : a == 2 ? 0 : 5, 0, LONG, 5, LONG, 1L << 32, RELL, a, TOINT, 0, RETURN, 0);
            runs(0, new int[] {5, -5, 0, 0, 0}[a], 5, INT, 0, LOAD, 0, REL, a, RETURN, 0);
        }
        runs(6, 6, 0, INT, 0, LOAD, 0, REL, 3, RETURN, 0);
    }

    private static void itsOwn() {
        part = "7 its own (34: the number is the INT)";
        int[] some = {Integer.MIN_VALUE, -1, 0, 1, 7, 13, Integer.MAX_VALUE};
        for (int n : some) {
            runs(7, n, n, LOAD, 0, FAIL, 0);
        }
    }

    private static void firstOfThree() {
        part = "Of one instruction the first of null, index, store";
        runs(1, 1, -1, NULL, 0, LOAD, 0, GET, 0, RETURN, 0);
        runs(1, 1, -1, NULL, 0, LOAD, 0, INT, 0, PUT, 0, INT, 0, RETURN, 0);
        runs(1, 1, -1, NULL, 0, LOAD, 0, TAKE, 0, DROP, 0, INT, 0, RETURN, 0);
        runs(1, 1, -1, NULL, 0, LOAD, 0, INT, 1, INTS, 0, GIVE, 0, INT, 0, RETURN, 0);
        runs(2, 2, -1, INT, 1, ROW, 1, LOAD, 0, INT, 1, INTS, 0, GIVE, 0, INT, 0, RETURN, 0);
        runs(2, 2, 1, INT, 1, ROW, 1, LOAD, 0, INT, 1, INTS, 0, GIVE, 0, INT, 0, RETURN, 0);
        runs(3, 3, 0, INT, 1, ROW, 1, LOAD, 0, INT, 1, INTS, 0, GIVE, 0, INT, 0, RETURN, 0);
    }

    private static void firstHandler() {
        part = "A FAILURE leads to the first HANDLER that covers the instruction and whose what is its number, or 0";
        for (int fits = 0; fits < 6; fits++) {
            for (int what = 0; what <= 6; what += 6) {
                KindJudge x = one(1, INT, 5, LOAD, 0, REL, 3, RETURN, 0, DROP, 0, INT, 1, RETURN, 0, DROP, 0, INT, 2,
                    RETURN, 0);
                for (int i = 0; i < 6; i++) {
                    // those ahead of it are for others or do not cover 2; those behind it would answer 1, too
                    boolean covers = i % 2 == 0;
                    if (i < fits) {
                        x.handler(0, covers ? 2 : 3, covers ? 3 : 4, 4, covers ? 5 : 0);
                    } else {
                        x.handler(0, 2, 3, i == fits ? 7 : 4, what);
                    }
                }
                due("join", x.join(0), 0);
                due("run", x.run(0, 0, 0, 0, 0), 0);
                due("number " + fits + " for " + what, x.answer(), 2);
            }
        }
    }

    private static void whatIsItsNumber() {
        part = "whose what is its number, or 0";
        long[][] failing = {{}, {NULL, 0, LENGTH, 0}, {INT, 0, INTS, 0, INT, 0, GET, 0},
            {INT, 1, ROW, 1, INT, 0, INT, 0, INTS, 0, GIVE, 0, INT, 0}, {INT, 0, INTS, 0, CAST, 1, DROP, 0, INT, 0},
            {INT, -1, INTS, 0, LENGTH, 0}, {INT, 1, INT, 0, REL, 4}, {INT, 3, FAIL, 0, INT, 0}};
        for (int failure = 1; failure <= 7; failure++) {
            for (int what = 0; what <= 7; what++) {
                int n = failing[failure].length / 2;
                KindJudge x = one(0, both(failing[failure], RETURN, 0, INT, 100, REL, 0, RETURN, 0));
                x.handler(0, 0, n, n + 1, what);
                due("join", x.join(0), 0);
                boolean caught = what == 0 || what == failure;
                int number = failure == 7 ? 3 : failure;
                due("FAILURE " + failure + ", what " + what, x.run(0, 0, 0, 0, 0), caught ? 0 : failure);
                due("answer", x.answer(), caught ? 100 + number : number);
                due("it arose", x.told(1), 1);
            }
        }
    }

    private static void stackOfHandler() {
        part = "the stack is the FAILURE's number (of 7: the INT)";
        // each time 7 more lie on the stack when it fails; the HANDLER fills it again
        KindJudge x = one(1, both(both(times(7, INT, 1), LOAD, 0, FAIL, 0), both(times(7, INT, 2),
            both(times(7, REL, 2), RETURN, 0))));
        x.handler(0, 8, 9, 9, 7);
        due("join", x.join(0), 0);
        due("run", x.run(0, 3, 0, 0, 0), 0);
        due("3 * 2 seven times", x.answer(), 3 * 128);
        // a HANDLER that fails itself, with 7 more on the stack each time
        x = one(1, both(both(new long[] {LOAD, 0}, times(7, INT, 1)), FAIL, 0));
        x.handler(0, 8, 9, 1, 7);
        due("join", x.join(0), 0);
        due("run", x.run(0, 3, 0, 0, 0), 10);
        due("instructions", x.told(0), 1 + 13 * 8);
        part = "LOCALS stay as they were";
        x = one(1, INT, 4, STORE, 1, INT, 1, INT, 0, REL, 3, RETURN, 0, LOAD, 1, LOAD, 0, REL, 0, REL, 0, RETURN, 0);
        x.handler(0, 4, 5, 6, 6);
        due("join", x.join(0), 0);
        due("run", x.run(0, 30, 0, 0, 0), 0);
        due("answer", x.answer(), 40);
    }

    private static void methodIsLeft() {
        part = "none: the METHOD is left by it, and it is one of the CALL that called it";
        KindJudge x = new KindJudge();
        add(x, 1, LOAD, 0, FAIL, 0);
        add(x, 1, NULL, 0, LOAD, 0, CALL, 0, RETURN, 0, INT, 50, REL, 0, RETURN, 0);
        add(x, 1, NULL, 0, LOAD, 0, CALL, 1, RETURN, 0, INT, 70, REL, 0, RETURN, 0);
        x.handler(1, 0, 2, 4, 0);
        x.handler(1, 3, 4, 4, 0);
        x.handler(2, 2, 3, 4, 7);
        for (int m = 0; m < 3; m++) {
            due("join", x.join(m), 0);
        }
        due("the CALL is not covered", x.run(1, 9, 0, 0, 0), 7);
        due("answer", x.answer(), 9);
        due("the CALL of the CALL is", x.run(2, 9, 0, 0, 0), 0);
        due("answer", x.answer(), 79);
        due("it arose once", x.told(1), 1);
        due("in METHOD", x.told(3), 0);
        due("at", x.told(4), 1);
        x.handler(1, 2, 3, 4, 7);
        x.join(1);
        due("the CALL is covered", x.run(2, 9, 0, 0, 0), 0);
        due("answer", x.answer(), 59);
        x.handler(0, 1, 2, 1, 6);
        x.join(0);
        due("the HANDLER is for others", x.run(2, 9, 0, 0, 0), 0);
        due("answer", x.answer(), 59);
    }

    private static void sevenDeep() {
        part = "which handlers catch, however deep in procs within one another";
        for (int catcher = 0; catcher < 8; catcher++) {
            KindJudge x = new KindJudge();
            add(x, 1, INT, 1, LOAD, 0, REL, 3, RETURN, 0, INT, 100, REL, 0, RETURN, 0);
            for (int m = 1; m < 8; m++) {
                add(x, 1, LOAD, 0, CALL, m - 1, RETURN, 0, NULL, 0, INT, 100 * (m + 1), REL, 0, RETURN, 0);
            }
            x.handler(0, catcher == 0 ? 2 : 3, catcher == 0 ? 3 : 4, 4, 6);
            if (catcher > 0) {
                x.handler(catcher, 1, 2, 4, 6);
            }
            for (int m = 0; m < 8; m++) {
                due("join", x.join(m), 0);
            }
            due("run", x.run(7, 0, 0, 0, 0), 0);
            due("METHOD " + catcher + " catches it", x.answer(), 6 + 100 * (catcher + 1));
            due("in METHOD", x.told(3), 0);
            due("at", x.told(4), 2);
            due("nothing fails", x.run(7, 1, 0, 0, 0), 0);
            due("answer", x.answer(), 1);
        }
    }

    private static KindJudge loop(long... behind) {
        KindJudge x = one(1, both(LOOP, behind));
        due("join", x.join(0), 0);
        return x;
    }

    private static void spent() {
        part = "A RUN ends behind 2000 instructions (SPENT)";
        // 1 ahead of the loop, 7 each time, LOAD and IFZERO that leave it, and what is behind it
        KindJudge x = loop(INT, 3, RETURN, 0);
        due("2000", x.run(0, 285, 0, 0, 0), 0);
        due("done", x.told(0), 2000);
        due("answer", x.answer(), 3);
        x = loop(NULL, 0, INT, 3, RETURN, 0);
        due("2001", x.run(0, 285, 0, 0, 0), 8);
        due("done", x.told(0), 2000);
        due("answer", x.answer(), 0);
        due("FAILURES", x.told(1), 0);
        due("none arose", x.told(3), NONE);
        x = loop(GOTO, 9, INT, 3, GOTO, 11, RETURN, 0);
        due("1995", x.run(0, 284, 0, 0, 0), 0);
        due("done", x.told(0), 1995);
        // those of the called METHODS count, too
        x = new KindJudge();
        add(x, 1, both(LOOP, INT, 3, RETURN, 0));
        add(x, 1, LOAD, 0, CALL, 0, RETURN, 0);
        x.join(0);
        x.join(1);
        due("1993 and the 3 that call it", x.run(1, 284, 0, 0, 0), 0);
        due("done", x.told(0), 1993 + 3);
        due("2003", x.run(1, 285, 0, 0, 0), 8);
        due("done", x.told(0), 2000);
    }

    private static void spentAndOther() {
        part = "A RUN ends behind 2000 instructions (SPENT): the 2000th is still done";
        KindJudge x = loop(INT, 3, FAIL, 0);
        due("it fails", x.run(0, 285, 0, 0, 0), 7);
        due("answer", x.answer(), 3);
        due("done", x.told(0), 2000);
        x = loop(INT, 3, FAIL, 0, GOTO, 10);
        x.handler(0, 9, 10, 10, 0);
        x.join(0);
        due("it fails and is caught", x.run(0, 285, 0, 0, 0), 8);
        due("answer", x.answer(), 0);
        due("FAILURES", x.told(1), 1);
        due("at", x.told(4), 9);
        x = loop(NULL, 0, INT, 3, FAIL, 0);
        due("the 2001st would fail", x.run(0, 285, 0, 0, 0), 8);
        due("FAILURES", x.told(1), 0);
        due("none arose", x.told(4), NONE);
        x = loop(INT, 31, INTS, 0, LENGTH, 0, RETURN, 0);
        due("no ROOM", x.run(0, 285, 0, 0, 0), 9);
        due("done", x.told(0), 2000);
        x = loop(NULL, 0, NEW, 1, GOTO, 10);
        due("it makes one", x.run(0, 285, 0, 0, 0), 8);
        due("made", x.told(2), 1);
    }

    /** Fails as often as the first param says, then returns how often. */
    private static KindJudge failing() {
        KindJudge x = one(1, LOAD, 0, IFZERO, 10, LOAD, 0, INT, 1, REL, 1, STORE, 0, INT, 66, FAIL, 0, DROP, 0, GOTO, 0,
            INT, 8, RETURN, 0);
        x.handler(0, 7, 8, 8, 7);
        due("join", x.join(0), 0);
        return x;
    }

    private static void thirteenth() {
        part = "at the 13th FAILURE that arises in it (that is handled by none)";
        for (int times = 0; times <= 14; times++) {
            KindJudge x = failing();
            due(times + " FAILURES", x.run(0, times, 0, 0, 0), times < 13 ? 0 : 10);
            due("answer", x.answer(), times < 13 ? 8 : 66);
            due("arose", x.told(1), Math.min(times, 13));
            due("at", x.told(4), times == 0 ? NONE : 7);
            due("done", x.told(0), times < 13 ? 10 * times + 4 : 10 * 12 + 8);
        }
        KindJudge x = failing();
        due("run", x.run(0, 12, 0, 0, 0), 0);
        due("each RUN counts its own", x.run(0, 12, 0, 0, 0), 0);
    }

    private static void thirteenthNotHandled() {
        part = "at the 13th FAILURE that arises in it: it is told as such, whether a HANDLER is there or not";
        for (int times = 11; times <= 13; times++) {
            KindJudge x = one(1, LOAD, 0, IFZERO, 10, LOAD, 0, INT, 1, REL, 1, STORE, 0, INT, 66, FAIL, 0, DROP, 0, GOTO, 0,
                NULL, 0, LENGTH, 0, RETURN, 0);
            x.handler(0, 7, 8, 8, 7);
            x.join(0);
            due("none behind " + times, x.run(0, times, 0, 0, 0), times < 12 ? 1 : 10);
            due("answer: that of the 13th", x.answer(), times < 13 ? 1 : 66);
            due("arose", x.told(1), Math.min(13, times + 1));
            due("at", x.told(4), times < 13 ? 11 : 7);
        }
        // it goes through a CALL: that is not a second one
        KindJudge x = new KindJudge();
        add(x, 0, INT, 66, FAIL, 0);
        add(x, 1, LOAD, 0, IFZERO, 9, LOAD, 0, INT, 1, REL, 1, STORE, 0, CALL, 0, DROP, 0, GOTO, 0, INT, 8, RETURN, 0);
        x.handler(1, 6, 7, 7, 7);
        x.join(0);
        due("join", x.join(1), 0);
        due("12 through a CALL", x.run(1, 12, 0, 0, 0), 0);
        due("arose", x.told(1), 12);
        due("13 through a CALL", x.run(1, 13, 0, 0, 0), 10);
        due("in METHOD", x.told(3), 0);
    }

    /** Makes something as often as the first param says. */
    private static KindJudge making(long... maker) {
        int end = 6 + maker.length / 2 + 2;
        KindJudge x = one(2, both(both(new long[] {LOAD, 0, IFZERO, end, LOAD, 0, INT, 1, REL, 1, STORE, 0}, maker),
            DROP, 0, GOTO, 0, INT, 3, RETURN, 0, RETURN, 0));
        x.handler(0, 0, end, end + 2, 0);
        due("join", x.join(0), 0);
        return x;
    }

    private static void room() {
        part = "at more than 20 arrays and OBJECTS (ROOM)";
        long[][] makers = {{INT, 0, INTS, 0}, {INT, 30, ROW, 1}, {NEW, 1}, {NEW, 5, DUP, 0, MADE, 5},
            {NEW, 2, DROP, 0, NULL, 0}};
        for (long[] maker : makers) {
            KindJudge x = making(maker);
            for (int times = 0; times <= 22; times++) {
                due(times + " are made", x.run(0, times, 0, 0, 0), times <= 20 ? 0 : 9);
                due("answer", x.answer(), times <= 20 ? 3 : 0);
                due("made", x.told(2), Math.min(20, times));
            }
        }
        KindJudge x = making(INT, 1, INTS, 0, DROP, 0, NEW, 1);
        due("10 of each", x.run(0, 10, 0, 0, 0), 0);
        due("made", x.told(2), 20);
        due("11 of each", x.run(0, 11, 0, 0, 0), 9);
        // the last one can be used as the first ones
        runs(0, 77, 19, LOAD, 0, IFZERO, 9, INT, 30, INTS, 0, DROP, 0, LOAD, 0, INT, 1, REL, 1, GOTO, 21,
            INT, 30, INTS, 0, STORE, 1, LOAD, 1, INT, 29, INT, 77, PUT, 0, LOAD, 1, INT, 29, GET, 0, RETURN, 0,
            RETURN, 0, STORE, 0, GOTO, 0);
    }

    private static void roomOfItems() {
        part = "or an array of more than 30 items (ROOM)";
        int[] sizes = {0, 1, 29, 30, 31, 32, 1000, Integer.MAX_VALUE};
        for (int n : sizes) {
            runs(n <= 30 ? 0 : 9, n <= 30 ? n : 0, n, LOAD, 0, INTS, 0, LENGTH, 0, RETURN, 0);
            runs(n <= 30 ? 0 : 9, n <= 30 ? n : 0, n, LOAD, 0, ROW, 4, LENGTH, 0, RETURN, 0);
        }
        KindJudge x = one(1, LOAD, 0, INTS, 0, LENGTH, 0, RETURN, 0);
        x.join(0);
        x.run(0, 31, 0, 0, 0);
        due("made", x.told(2), 0);
        due("done", x.told(0), 2);
    }

    private static void roomNotHandled() {
        part = "(ROOM; handled by none)";
        for (int what = 0; what <= 7; what++) {
            KindJudge x = new KindJudge();
            add(x, 1, LOAD, 0, INTS, 0, LENGTH, 0, RETURN, 0, RETURN, 0);
            add(x, 1, LOAD, 0, CALL, 0, RETURN, 0, RETURN, 0);
            x.handler(0, 0, 4, 4, what);
            x.handler(1, 0, 3, 3, what);
            x.join(0);
            x.join(1);
            due("ROOM", x.run(0, 31, 0, 0, 0), 9);
            due("ROOM through a CALL", x.run(1, 31, 0, 0, 0), 9);
            due("no FAILURE", x.told(1), 0);
            due("none arose", x.told(3), NONE);
            due("none arose", x.told(4), NONE);
            due("answer", x.answer(), 0);
        }
    }

    private static void anew() {
        part = "a RUN begins anew, however the one before it ended";
        KindJudge x = new KindJudge();
        add(x, 1, LOAD, 0, IFZERO, 4, INT, 2, GOTO, 8, NULL, 0, DROP, 0, GOTO, 4, RETURN, 0, INTS, 0, INT, 1, GET, 0,
            RETURN, 0);
        add(x, 2, NULL, 0, LOAD, 0, CALL, 0, LOAD, 1, REL, 0, RETURN, 0);
        due("join", x.join(0), 0);
        due("join", x.join(1), 0);
        due("SPENT in a METHOD that is called", x.run(1, 0, 0, 0, 0), 8);
        due("run", x.run(1, 1, 40, 0, 0), 0);
        due("answer", x.answer(), 40);
        due("done", x.told(0), 14);
        x = new KindJudge();
        add(x, 1, LOAD, 0, INTS, 0, LENGTH, 0, RETURN, 0);
        add(x, 2, NULL, 0, LOAD, 0, CALL, 0, LOAD, 1, REL, 0, RETURN, 0);
        x.join(0);
        x.join(1);
        due("ROOM in a METHOD that is called", x.run(1, 31, 0, 0, 0), 9);
        due("run", x.run(1, 2, 40, 0, 0), 0);
        due("answer", x.answer(), 42);
        due("made", x.told(2), 1);
        due("FAILURE in a METHOD that is called", x.run(1, -1, 0, 0, 0), 5);
        due("run", x.run(1, 2, 40, 0, 0), 0);
        due("answer", x.answer(), 42);
        due("done", x.told(0), 10);
        itemsAnew();
    }

    private static void itemsAnew() {
        part = "the items of an array are 0, null at first";
        KindJudge x = one(2, INT, 3, INTS, 0, STORE, 2, LOAD, 2, LOAD, 0, GET, 0, LOAD, 2, LOAD, 0, LOAD, 1, PUT, 0,
            RETURN, 0);
        due("join", x.join(0), 0);
        for (int i = 0; i < 3; i++) {
            due("run", x.run(0, i, 9, 0, 0), 0);
            due("run", x.run(0, i, 9, 0, 0), 0);
            due("item " + i, x.answer(), 0);
        }
        x = one(1, INT, 3, ROW, 1, STORE, 2, LOAD, 2, LOAD, 0, TAKE, 0, IFNULL, 14, INT, 1, RETURN, 0, NULL, 0, NULL, 0,
            NULL, 0, NULL, 0, NULL, 0, LOAD, 2, LOAD, 0, NEW, 1, DUP, 0, MADE, 1, GIVE, 0, INT, 0, RETURN, 0);
        due("join", x.join(0), 0);
        for (int i = 0; i < 3; i++) {
            due("run", x.run(0, i, 0, 0, 0), 0);
            due("run", x.run(0, i, 0, 0, 0), 0);
            due("item " + i, x.answer(), 0);
        }
    }

    private static void stacksAreEmpty() {
        part = "At the first one .. the stack is empty (RUN)";
        KindJudge x = new KindJudge();
        add(x, 0, both(times(8, INT, 1), RETURN, 0));
        add(x, 0, CALL, 0, CALL, 0, CALL, 0, REL, 0, REL, 0, RETURN, 0);
        x.join(0);
        x.join(1);
        due("run", x.run(1, 0, 0, 0, 0), 0);
        due("three times full", x.answer(), 3);
        x = one(1, both(times(7, INT, 1), LOAD, 0, RETURN, 0));
        x.join(0);
        for (int n = 5; n < 9; n++) {
            due("run", x.run(0, n, 0, 0, 0), 0);
            due("full each time", x.answer(), n);
        }
    }

    private static void paramsInOrder() {
        part = "33 CALL a: its params as INTS, INT (RUN)";
        int[] want = {0, 9, 98, 987, 9876};
        for (int params = 0; params <= 4; params++) {
            KindJudge x = new KindJudge();
            int called = add(x, params, INT, 0);
            for (int local = 0; local < params; local++) {
                append(x, called, INT, 10, REL, 2, LOAD, local, REL, 0);
            }
            append(x, called, RETURN, 0);
            int calling = add(x, 0, INT, 50000);
            for (int local = 0; local < params; local++) {
                append(x, calling, INT, 9 - local);
            }
            append(x, calling, CALL, called, REL, 0, RETURN, 0);
            due("join", x.join(called), 0);
            due("join", x.join(calling), 0);
            due("run", x.run(calling, 0, 0, 0, 0), 0);
            due("params: " + params, x.answer(), 50000 + want[params]);
        }
    }

    private static void castKeepsIt() {
        part = "21 CAST a: OBJECT of ROOT, OBJECT of a: the same one";
        for (int a = 0; a <= 7; a++) {
            boolean hasWorth = a >= 1 && a <= 5;
            if (a != 3 && a != 5) {
                runs(0, 22, 22, NEW, 4, DUP, 0, MADE, 4, DUP, 0, STORE, 1, CAST, a, CAST, 4, LOAD, 0, SETFIELD, 0, LOAD, 1,
                    FIELD, 0, RETURN, 0);
                runs(0, hasWorth ? 92 : 1, 0, NULL, 0, NEW, 4, DUP, 0, MADE, 4, CAST, a, hasWorth ? WORTH : IS, 4,
                    RETURN, 0);
            }
        }
    }
}
