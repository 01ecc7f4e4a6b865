/** Any calls with any numbers: none throws, answers stay in their range, BAD and FULL change nothing. */
public final class AnyCallTest {
    private static final int BAD = -1, FULL = -3, NONE = -99999999;
    private static final int[] ODD = {Integer.MIN_VALUE, -99999999, -2, -1, 8, 9, 39, 40, 41, 100, 139, 140,
        Integer.MAX_VALUE};
    private static long seed = 4711;

    public static void main(String[] args) {
        for (int i = 0; i < 4000; i++) {
            session();
        }
        Check.end();
    }

    private static int random(int below) {
        seed = seed * 6364136223846793005L + 1442695040888963407L;
        return (int) ((seed >>> 33) % below);
    }

    private static int some(int below) {
        return random(40) == 0 ? ODD[random(ODD.length)] : random(below);
    }

    private static long someA() {
        return random(30) == 0 ? (long) some(9) << 32 | some(9) : some(8);
    }

    private static void session() {
        KindJudge x = new KindJudge();
        int methods = 1 + random(3);
        for (int i = 0; i < methods; i++) {
            x.method(some(5));
        }
        for (int i = 0; i < 200; i++) {
            int before = state(x);
            int got = call(x, methods);
            if (got == BAD || got == FULL) {
                Check.due("BAD, FULL change nothing", state(x), before);
            }
        }
    }

    /** What can be asked for, in one number. */
    private static int state(KindJudge x) {
        int hash = x.answer() * 31 + x.rounds();
        for (int i = 0; i < 5; i++) {
            hash = hash * 31 + x.told(i);
        }
        for (int i = 0; i < 8; i++) {
            for (int what = 0; what < 4; what++) {
                hash = hash * 31 + x.count(what, i);
            }
            for (int place = 0; place < 16; place++) {
                hash = hash * 31 + x.kind(i, place);
            }
        }
        return hash;
    }

    private static void within(String call, int got, int from, int to, int... others) {
        boolean fine = got >= from && got <= to;
        for (int other : others) {
            fine = fine || got == other;
        }
        Check.due(call + " answered " + got, fine);
    }

    private static int call(KindJudge x, int methods) {
        int m = some(methods);
        int got;
        switch (random(12)) {
            case 0: case 1: case 2: case 3:
                got = x.op(m, some(35), someA());
                within("op", got, 0, 39, BAD, FULL);
                return got;
            case 4:
                int from = some(10);
                got = x.handler(m, from, from + 1 + some(6), some(12), some(8));
                within("handler", got, 1, 6, BAD, FULL);
                return got;
            case 5:
                got = x.frame(m, some(10), some(4) - 1);
                within("frame", got, 0, 0, BAD);
                return got;
            case 6:
                got = x.set(m, some(10), some(10), random(3) == 0 ? 100 + some(10) : some(26));
                within("set", got, 0, 139, BAD);
                return got;
            case 7:
                got = x.judge(m);
                within("judge", got, 0, 41, BAD);
                return got;
            case 8:
                got = x.join(m);
                within("join", got, 0, 40, BAD);
                within("rounds", x.rounds(), 0, 40 * 17 * 8);
                return got;
            case 9:
                got = x.run(m, some(40) - 3, some(5), ODD[random(ODD.length)], 0);
                within("run", got, 0, 10, BAD, -2);
                return got;
            case 10:
                got = x.kinds(some(26), some(140), random(2) == 0);
                within("kinds", got, 0, 139, BAD);
                return got;
            default:
                got = x.kind(some(40), some(16));
                within("kind", got, 0, 139, NONE);
                return got;
        }
    }
}
