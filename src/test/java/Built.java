/** What the tests written by hand share: the ops by their names, and METHODS made of ops and their a in turn. */
abstract class Built {
    static final int BAD = -1, FULL = -3, NONE = -99999999;
    static final int INT = 0, LONG = 1, NULL = 2, LOAD = 3, STORE = 4, LOADL = 5, STOREL = 6, REL = 7,
        RELL = 8, TOLONG = 9, TOINT = 10, LESS = 11, NEW = 12, MADE = 13, INTS = 14, ROW = 15, LENGTH = 16, GET = 17,
        PUT = 18, TAKE = 19, GIVE = 20, CAST = 21, IS = 22, FIELD = 23, SETFIELD = 24, WORTH = 25, DUP = 26, DROP = 27,
        SWAP = 28, GOTO = 29, IFZERO = 30, IFNULL = 31, RETURN = 32, CALL = 33, FAIL = 34;
    /** Every KIND, but of the UNMADE only some. */
    static final int[] SOME_KINDS = {0, 1, 2, 3, 4, 5, 10, 11, 12, 13, 14, 15, 16, 17, 21, 22, 23, 24, 25, 100, 101, 103,
        139};
    static final int[] NO_KINDS = {-1, 6, 7, 8, 9, 18, 19, 20, 26, 27, 99, 140, Integer.MAX_VALUE, Integer.MIN_VALUE};

    /** What is tested now: a promise, or a sentence of the document. */
    static String part = "";

    static void due(String call, long got, long want) {
        Check.due(part + ": " + call, got, want);
    }

    /** Adds a METHOD of ops and their a in turn. */
    static int add(KindJudge x, int params, long... opsAndAs) {
        int m = x.method(params);
        append(x, m, opsAndAs);
        return m;
    }

    static void append(KindJudge x, int m, long... opsAndAs) {
        for (int i = 0; i + 1 < opsAndAs.length; i += 2) {
            x.op(m, (int) opsAndAs[i], opsAndAs[i + 1]);
        }
    }

    static KindJudge one(int params, long... opsAndAs) {
        KindJudge x = new KindJudge();
        add(x, params, opsAndAs);
        return x;
    }

    private static String told(String what, long... opsAndAs) {
        StringBuilder text = new StringBuilder(what);
        for (long o : opsAndAs) {
            text.append(' ').append(o);
        }
        return text.toString();
    }

    /** What join() of one METHOD alone, with one param, answers. */
    static void joins(long want, long... opsAndAs) {
        due(told("join of", opsAndAs), one(1, opsAndAs).join(0), want);
    }

    /** What run() and answer() of one METHOD alone, with one param, answer. */
    static void runs(int how, int answer, int param, long... opsAndAs) {
        KindJudge x = one(1, opsAndAs);
        String text = told("run with " + param + " of", opsAndAs);
        due("join, " + text, x.join(0), 0);
        due(text, x.run(0, param, 0, 0, 0), how);
        due("answer, " + text, x.answer(), answer);
    }

    /** The ops and their a, that many times. */
    static long[] times(int many, long... opsAndAs) {
        long[] all = new long[many * opsAndAs.length];
        for (int i = 0; i < all.length; i++) {
            all[i] = opsAndAs[i % opsAndAs.length];
        }
        return all;
    }

    static long[] both(long[] first, long... then) {
        long[] all = new long[first.length + then.length];
        System.arraycopy(first, 0, all, 0, first.length);
        System.arraycopy(then, 0, all, first.length, then.length);
        return all;
    }
}
