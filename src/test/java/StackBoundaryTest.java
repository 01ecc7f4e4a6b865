import java.util.Arrays;

/**
 * Each instruction with each KIND in each place that it pops, with a place too few, and with a stack that gets too full
 * (part 2 of the document's terms). The stack is told by the FRAME of an instruction to which nothing comes; what is
 * left comes to one that is always WRONG, so judge() tells which of the two is the first.
 */
public final class StackBoundaryTest extends Built {
    private static final int AT = 1, BEHIND = 2, MAKER = 3, TARGET = 4;
    private static final int WRONG = AT + 1, RIGHT = BEHIND + 1;
    private static final int CALLED = 0, METHOD = 1;

    private static final int[] AN_INT = {1}, FIRST = {2}, SECOND = {3}, INTS_ARRAY = {5, 4};
    private static final int[] A_ROW = {21, 22, 23, 24, 25, 4}, AN_ARRAY = {5, 21, 22, 23, 24, 25, 4};
    private static final int[] OF_ROOT = {10, 11, 12, 13, 14, 15, 16, 17, 5, 21, 22, 23, 24, 25, 4};
    private static final int[] OF_ROOT_ALONE = {10};
    private static final int[] OF_A = {11, 12, 13, 14, 15, 4};
    private static final int[] ONE_PLACE = {1, 4, 5, 10, 11, 12, 13, 14, 15, 16, 17, 21, 22, 23, 24, 25, 100, 101, 103, 139};
    private static final int[] MADE_THERE = {100 + MAKER};

    public static void main(String[] args) {
        part = "0 INT .. 1 LONG .. 2 NULL";
        instruction(INT, 5, kinds(1));
        instruction(LONG, 5, kinds(2, 3));
        instruction(NULL, 5, kinds(4));
        stores();
        numbers();
        objectsAndArrays();
        turns();
        leads();
        calls();
        Check.end();
    }

    private static int[] kinds(int... all) {
        return all;
    }

    private static KindJudge built(int op, long a, int params) {
        KindJudge x = new KindJudge();
        add(x, params, INT, 0, RETURN, 0);
        add(x, 0, GOTO, TARGET, op, a, -1, 0, NEW, 2, INT, 0, RETURN, 0);
        x.frame(METHOD, TARGET, 0);
        return x;
    }

    /** Judges the instruction with that stack ahead of it; where it leads a FRAME tells what it leaves. */
    private static KindJudge judged(int op, long a, int params, int[] stack, int leaves) {
        KindJudge x = built(op, a, params);
        x.frame(METHOD, AT, stack.length);
        for (int i = 0; i < stack.length; i++) {
            x.set(METHOD, AT, 8 + i, stack[i]);
        }
        if (leaves > 0) {
            x.frame(METHOD, TARGET + 1, leaves);
        }
        return x;
    }

    private static void verdict(String how, int op, long a, int params, int[] stack, int leaves, boolean right) {
        KindJudge x = judged(op, a, params, stack, leaves);
        due(op + " " + a + " with " + Arrays.toString(stack) + ", " + how, x.judge(METHOD), right ? RIGHT : WRONG);
        for (int i = 0; i < stack.length; i++) {
            due("the stack ahead of it", x.kind(AT, 8 + i), stack[i]);
        }
    }

    private static void instruction(int op, long a, int[] pushes, int[]... pops) {
        shape(op, a, 0, pushes, pops);
    }

    private static void shape(int op, long a, int params, int[] pushes, int[]... pops) {
        for (int below = 0; below + pops.length <= 8; below++) {
            boolean fits = below + pushes.length <= 8;
            int[] stack = fill(below, pops);
            verdict("places below: " + below, op, a, params, stack, 0, fits);
            if (fits) {
                leaves(op, a, params, stack, below, pushes);
            }
        }
        if (pops.length > 0) {
            tooFew(op, a, params, fill(0, pops));
        }
        for (int place = 0; place < pops.length; place++) {
            eachKind(op, a, params, place, pops);
        }
    }

    /** What is missing on the stack lies in the last local, side by side with the stack. */
    private static void tooFew(int op, long a, int params, int[] stack) {
        for (int missing = 1; missing <= stack.length; missing++) {
            KindJudge x = judged(op, a, params, Arrays.copyOfRange(stack, missing, stack.length), 0);
            x.set(METHOD, AT, 7, stack[missing - 1]);
            due(op + " " + a + ", places too few: " + missing, x.judge(METHOD), WRONG);
        }
    }

    private static int[] fill(int below, int[]... pops) {
        int[] stack = new int[below + pops.length];
        for (int i = 0; i < stack.length; i++) {
            stack[i] = i < below ? 21 + i % 5 : pops[i - below][0];
        }
        return stack;
    }

    private static void eachKind(int op, long a, int params, int place, int[]... pops) {
        for (int kind : SOME_KINDS) {
            boolean wanted = false;
            for (int fine : pops[place]) {
                wanted = wanted || fine == kind;
            }
            int[] stack = fill(1, pops);
            stack[1 + place] = kind;
            verdict("KIND " + kind + " in place " + place, op, a, params, stack, 0, wanted);
        }
    }

    private static void leaves(int op, long a, int params, int[] stack, int below, int[] pushes) {
        KindJudge x = judged(op, a, params, stack, 0);
        x.judge(METHOD);
        for (int i = 0; i < below; i++) {
            due(op + " " + a + " leaves what lies below", x.kind(BEHIND, 8 + i), stack[i]);
        }
        for (int i = 0; i < pushes.length; i++) {
            due(op + " " + a + " pushes", x.kind(BEHIND, 8 + below + i), pushes[i]);
        }
        due(op + " " + a + " pushes no more", x.kind(BEHIND, 8 + below + pushes.length), NONE);
    }

    private static void stores() {
        part = "4 STORE: x (ONE PLACE), local a becomes it .. 6 STOREL: LONG";
        for (int a = 0; a < 8; a++) {
            instruction(STORE, a, kinds(), ONE_PLACE);
        }
        for (int a = 0; a < 7; a++) {
            instruction(STOREL, a, kinds(), FIRST, SECOND);
        }
    }

    private static void numbers() {
        part = "7 REL a .. on INTS: INT INT, INT. 8 likewise on LONGS. 9 TOLONG .. 10 TOINT .. 11 LESS";
        for (int a = 0; a <= 4; a++) {
            instruction(REL, a, kinds(1), AN_INT, AN_INT);
            instruction(RELL, a, kinds(2, 3), FIRST, SECOND, FIRST, SECOND);
        }
        instruction(TOLONG, 9, kinds(2, 3), AN_INT);
        instruction(TOINT, 9, kinds(1), FIRST, SECOND);
        instruction(LESS, 9, kinds(1), FIRST, SECOND, FIRST, SECOND);
    }

    private static void objectsAndArrays() {
        part = "12 NEW .. 25 WORTH, what they pop and push";
        for (int a = 1; a <= 5; a++) {
            instruction(NEW, a, kinds(100 + AT));
            instruction(ROW, a, kinds(20 + a), AN_INT);
        }
        instruction(MADE, 2, kinds(), MADE_THERE);
        instruction(INTS, 9, kinds(5), AN_INT);
        instruction(LENGTH, 9, kinds(1), AN_ARRAY);
        instruction(GET, 9, kinds(1), INTS_ARRAY, AN_INT);
        instruction(PUT, 9, kinds(), INTS_ARRAY, AN_INT, AN_INT);
        instruction(TAKE, 9, kinds(11), A_ROW, AN_INT);
        instruction(GIVE, 9, kinds(), A_ROW, AN_INT, OF_ROOT);
        for (int a = 0; a <= 7; a++) {
            instruction(CAST, a, kinds(10 + a), OF_ROOT);
            instruction(IS, a, kinds(1), OF_ROOT);
        }
        instruction(FIELD, 9, kinds(1), OF_A);
        instruction(SETFIELD, 9, kinds(), OF_A, AN_INT);
        instruction(WORTH, 9, kinds(1), OF_A);
        part = "19 TAKE: a ROW or NULL, INT: OBJECT of the ROW's class (of NULL NULL)";
        for (int c = 1; c <= 5; c++) {
            leaves(TAKE, 9, 0, kinds(20 + c, 1), 0, kinds(10 + c));
        }
        leaves(TAKE, 9, 0, kinds(4, 1), 0, kinds(4));
    }

    private static void turns() {
        part = "26 DUP: x (ONE PLACE), x x. 27 DROP: x (ONE PLACE). 28 SWAP: x y, y x (ONE PLACE each)";
        instruction(DUP, 9, kinds(1, 1), ONE_PLACE);
        instruction(DROP, 9, kinds(), ONE_PLACE);
        instruction(SWAP, 9, kinds(1, 1), ONE_PLACE, ONE_PLACE);
        for (int kind : ONE_PLACE) {
            leaves(DUP, 9, 0, kinds(kind), 0, kinds(kind, kind));
            leaves(SWAP, 9, 0, kinds(kind, 5), 0, kinds(5, kind));
            leaves(SWAP, 9, 0, kinds(22, kind), 0, kinds(kind, 22));
        }
    }

    private static void leads() {
        part = "29 GOTO a. 30 IFZERO a: INT. 31 IFNULL a: OBJECT of ROOT. 32 RETURN: INT. .. 34 FAIL: INT";
        for (int depth = 1; depth <= 7; depth++) {
            for (int kind : SOME_KINDS) {
                int[] stack = fill(depth, new int[] {kind});
                boolean isInt = kind == 1;
                boolean isOfRoot = kind >= 4 && kind <= 25;
                verdict("it leads", GOTO, TARGET + 1, 0, stack, depth + 1, true);
                verdict("it leads", IFZERO, TARGET + 1, 0, stack, depth, isInt);
                verdict("it leads", IFNULL, TARGET + 1, 0, stack, depth, isOfRoot);
                verdict("it ends", RETURN, TARGET + 1, 0, stack, 0, isInt);
                verdict("it ends", FAIL, TARGET + 1, 0, stack, 0, isInt);
            }
        }
        int[] popping = {IFZERO, IFNULL, RETURN, FAIL};
        for (int op : popping) {
            tooFew(op, TARGET, 0, op == IFNULL ? OF_ROOT_ALONE : AN_INT);
        }
        verdict("nothing", GOTO, TARGET, 0, new int[0], 0, true);
    }

    private static void calls() {
        part = "33 CALL a (another METHOD, of a lesser number): its params as INTS, INT";
        shape(CALL, CALLED, 0, kinds(1));
        shape(CALL, CALLED, 1, kinds(1), AN_INT);
        shape(CALL, CALLED, 2, kinds(1), AN_INT, AN_INT);
        shape(CALL, CALLED, 3, kinds(1), AN_INT, AN_INT, AN_INT);
        shape(CALL, CALLED, 4, kinds(1), AN_INT, AN_INT, AN_INT, AN_INT);
    }
}
