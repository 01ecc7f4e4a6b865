/** The sentences that name boundary cases: numbers, CLASSES and KINDS (the head and part 1 of the document's terms). */
public final class KindsBoundaryTest extends Built {
    /** For each class a bit for each class or FACE that it is UNDER: A, B, C, D, E behind ROOT. */
    private static final int[] UNDER = {
        0b00000001, 0b00000011, 0b00000111, 0b01001011, 0b11010111, 0b10100011};

    public static void main(String[] args) {
        intsGoRound();
        longsGoRound();
        underItself();
        madeOfClasses();
        fieldAtFirst();
        worthsGoRound();
        noSuchKinds();
        oneOrTop();
        nullGoes();
        objectsGo();
        arraysGo();
        rowsGo();
        joinOfOne();
        joinWithNull();
        joinOfObjects();
        joinOfRows();
        joinOfOthers();
        Check.end();
    }

    private static void ints(int want, int x, int relation, int y) {
        runs(0, want, x, LOAD, 0, INT, y, REL, relation, RETURN, 0);
    }

    private static void intsGoRound() {
        part = "Numbers are whole, .. of 32 bits in INTS (both go round)";
        int max = Integer.MAX_VALUE;
        int min = Integer.MIN_VALUE;
        ints(min, max, 0, 1);
        ints(max, min, 0, -1);
        ints(0, min, 0, min);
        ints(max, min, 1, 1);
        ints(min, max, 1, -1);
        ints(min, 0, 1, min);
        ints(1, max, 2, max);
        ints(0, min, 2, 2);
        ints(min, min, 2, -1);
        ints(min, min, 3, -1);
        ints(0, min, 4, -1);
        ints(-3, -7, 3, 2);
        ints(-1, -7, 4, 2);
        ints(1, 7, 4, -2);
        ints(0, 5, 2, 0);
        ints(5, 5, 0, 0);
        ints(5, 5, 1, 0);
    }

    /** Tells a LONG by its two halves, the second way as what is left of it in 32 bits. */
    private static void longs(long want, long x, int relation, long y) {
        runs(0, (int) want, 0, LONG, x, LONG, y, RELL, relation, TOINT, 0, RETURN, 0);
        runs(0, (int) (want / (1L << 32)), 0, LONG, x, LONG, y, RELL, relation, LONG, 1L << 32, RELL, 3, TOINT, 0,
            RETURN, 0);
    }

    private static void longsGoRound() {
        part = "Numbers are whole, of 64 bits in LONGS .. (both go round)";
        long max = Long.MAX_VALUE;
        long min = Long.MIN_VALUE;
        longs(min, max, 0, 1);
        longs(max, min, 0, -1);
        longs(max, min, 1, 1);
        longs(min, 0, 1, min);
        longs(1, max, 2, max);
        longs(0, min, 2, 2);
        longs(min, min, 3, -1);
        longs(0, min, 4, -1);
        longs(-3, -7, 3, 2);
        longs(-1, -7, 4, 2);
        longs(0, max, 2, 0);
        longs(1L << 32, Integer.MAX_VALUE + 1L, 0, Integer.MAX_VALUE + 1L);
        runs(0, 1, 0, LONG, min, LONG, max, LESS, 0, RETURN, 0);
        runs(0, 0, 0, LONG, max, LONG, min, LESS, 0, RETURN, 0);
        runs(0, 0, 0, LONG, max, LONG, max, LESS, 0, RETURN, 0);
        runs(0, 1, 0, LONG, max - 1, LONG, max, LESS, 0, RETURN, 0);
        part = "9 TOLONG: INT, LONG. 10 TOINT: LONG, INT (the lowest bits)";
        runs(0, 0, 0, LONG, 1L << 32, TOINT, 0, RETURN, 0);
        runs(0, Integer.MIN_VALUE, 0, LONG, 1L << 31, TOINT, 0, RETURN, 0);
        runs(0, -1, 0, LONG, max, TOINT, 0, RETURN, 0);
        runs(0, 1, Integer.MIN_VALUE, LOAD, 0, TOLONG, 0, LONG, Integer.MIN_VALUE + 1L, LESS, 0, RETURN, 0);
        runs(0, 0, Integer.MIN_VALUE, LOAD, 0, TOLONG, 0, LONG, Integer.MIN_VALUE, LESS, 0, RETURN, 0);
    }

    private static long[] made(int c) {
        return new long[] {NEW, c, DUP, 0, MADE, c};
    }

    private static void underItself() {
        part = "A class, FACE is UNDER itself, the class that it is of, and so on, the FACES that it is, and ROOT";
        for (int c = 1; c <= 5; c++) {
            for (int a = 0; a <= 7; a++) {
                int under = UNDER[c] >> a & 1;
                runs(0, under, 0, both(made(c), IS, a, RETURN, 0));
                runs(under == 1 ? 0 : 4, 4, 0, both(made(c), CAST, a, DROP, 0, INT, 4, RETURN, 0));
            }
        }
    }

    private static void madeOfClasses() {
        part = "An OBJECT that is made is of a class 1 to 5";
        long[] none = {0, 6, 7, -1, Long.MIN_VALUE, Long.MAX_VALUE, (1L << 32) + 1};
        for (long a : none) {
            joins(1, NEW, a, GOTO, 1);
        }
        for (int a = 1; a <= 5; a++) {
            KindJudge x = one(0, both(made(a), GOTO, 3));
            due("join, NEW " + a, x.join(0), 0);
            due("KIND", x.kind(3, 8), 10 + a);
        }
    }

    private static void fieldAtFirst() {
        part = "has a FIELD (an INT, 0 at first)";
        KindJudge x = one(1, both(made(1), DUP, 0, FIELD, 0, STORE, 1, LOAD, 0, SETFIELD, 0, LOAD, 1, RETURN, 0));
        due("join", x.join(0), 0);
        for (int value = 7; value < 10; value++) {
            due("run", x.run(0, value, 0, 0, 0), 0);
            due("of each one that is made", x.answer(), 0);
        }
        int[] some = {Integer.MIN_VALUE, -1, 0, Integer.MAX_VALUE};
        for (int value : some) {
            runs(0, value, value, both(made(5), DUP, 0, LOAD, 0, SETFIELD, 0, FIELD, 0, RETURN, 0));
        }
    }

    private static void worth(int want, int c, int field) {
        runs(0, want, field, both(made(c), DUP, 0, LOAD, 0, SETFIELD, 0, WORTH, 0, RETURN, 0));
    }

    private static void worthsGoRound() {
        part = "a WORTH: A: 1 and the FIELD; B: twice A's; C: F's and A's; D: B's, less F's, and G's; E: G's; ..";
        int[] atZero = {0, 1, 2, 11, 92, 100};
        int[] atSeven = {0, 8, 16, 18, 113, 107};
        int[] atMax = {0, Integer.MIN_VALUE, 0, Integer.MIN_VALUE + 10, Integer.MIN_VALUE + 89, Integer.MIN_VALUE + 99};
        int[] atMin = {0, Integer.MIN_VALUE + 1, 2, Integer.MIN_VALUE + 11, Integer.MIN_VALUE + 92,
            Integer.MIN_VALUE + 100};
        for (int c = 1; c <= 5; c++) {
            worth(atZero[c], c, 0);
            worth(atSeven[c], c, 7);
            worth(atMax[c], c, Integer.MAX_VALUE);
            worth(atMin[c], c, Integer.MIN_VALUE);
        }
    }

    private static void noSuchKinds() {
        part = "KINDS of places: 0 .. 5, 10 + c, 20 + c (1 to 5), 100 + i (0 .. 39)";
        KindJudge x = new KindJudge();
        for (int kind : NO_KINDS) {
            due("JOIN of " + kind, x.kinds(kind, 0, false), BAD);
            due("JOIN with " + kind, x.kinds(0, kind, false), BAD);
            due("GOES of " + kind, x.kinds(kind, 0, true), BAD);
            due("GOES to " + kind, x.kinds(1, kind, true), BAD);
            due("with itself " + kind, x.kinds(kind, kind, true), BAD);
        }
        for (int kind = -200; kind <= 300; kind++) {
            boolean is = kind >= 0 && kind <= 5 || kind >= 10 && kind <= 17 || kind >= 21 && kind <= 25
                || kind >= 100 && kind <= 139;
            due("KIND " + kind, new KindJudge().kinds(kind, 0, true), is ? 1 : BAD);
        }
    }

    private static void goes(int x, int y, boolean want) {
        due(x + " GOES to " + y, new KindJudge().kinds(x, y, true), want ? 1 : 0);
    }

    private static void oneOrTop() {
        part = "x GOES to y: they are one; y is TOP";
        for (int x : SOME_KINDS) {
            goes(x, x, true);
            goes(x, 0, true);
            goes(0, x, x == 0);
        }
        int[] alone = {1, 2, 3, 100, 101, 103, 139};
        for (int x : alone) {
            for (int y : SOME_KINDS) {
                goes(x, y, x == y || y == 0);
                goes(y, x, x == y);
            }
        }
    }

    private static void nullGoes() {
        part = "x is NULL and y INTS, an OBJECT, a ROW";
        for (int y : SOME_KINDS) {
            goes(4, y, y == 0 || y >= 4 && y <= 25);
            goes(y, 4, y == 4);
        }
    }

    private static void objectsGo() {
        part = "both are OBJECTS, and y's is a FACE or x's is UNDER it";
        for (int c = 0; c <= 5; c++) {
            for (int d = 0; d <= 5; d++) {
                goes(10 + c, 10 + d, (UNDER[c] >> d & 1) == 1);
            }
            goes(10 + c, 16, true);
            goes(10 + c, 17, true);
            goes(16, 10 + c, c == 0);
            goes(17, 10 + c, c == 0);
        }
        goes(16, 17, true);
        goes(17, 16, true);
    }

    private static void arraysGo() {
        part = "x is INTS or a ROW, y OBJECT of ROOT or a FACE";
        int[] arrays = {5, 21, 22, 23, 24, 25};
        for (int x : arrays) {
            for (int c = 0; c <= 7; c++) {
                goes(x, 10 + c, c == 0 || c >= 6);
                goes(10 + c, x, false);
            }
        }
        for (int row = 21; row <= 25; row++) {
            goes(5, row, false);
            goes(row, 5, false);
        }
    }

    private static void rowsGo() {
        part = "both are ROWS, and x's class is UNDER y's";
        for (int c = 1; c <= 5; c++) {
            for (int d = 1; d <= 5; d++) {
                goes(20 + c, 20 + d, (UNDER[c] >> d & 1) == 1);
            }
        }
    }

    private static void join(int x, int y, int want) {
        due("JOIN of " + x + ", " + y, new KindJudge().kinds(x, y, false), want);
        due("JOIN of " + y + ", " + x, new KindJudge().kinds(y, x, false), want);
    }

    private static void joinOfOne() {
        part = "THE JOIN of x and y: if they are one, that";
        for (int x : SOME_KINDS) {
            join(x, x, x);
        }
    }

    private static void joinWithNull() {
        part = "NULL and INTS, an OBJECT, a ROW: that";
        for (int y : SOME_KINDS) {
            join(4, y, y >= 4 && y <= 25 ? y : 0);
        }
    }

    private static void joinOfObjects() {
        part = "two OBJECTS: that of the first class (no FACE) that x's is UNDER, from it up, that y's is UNDER, too";
        int[][] want = {
            {0, 0, 0, 0, 0, 0, 0, 0},
            {0, 1, 1, 1, 1, 1, 0, 0},
            {0, 1, 2, 1, 2, 1, 0, 0},
            {0, 1, 1, 3, 1, 1, 0, 0},
            {0, 1, 2, 1, 4, 1, 0, 0},
            {0, 1, 1, 1, 1, 5, 0, 0},
            {0, 0, 0, 0, 0, 0, 6, 0},
            {0, 0, 0, 0, 0, 0, 0, 7}};
        for (int x = 0; x <= 7; x++) {
            for (int y = 0; y <= 7; y++) {
                join(10 + x, 10 + y, 10 + want[x][y]);
            }
        }
        part = "two ROWS: the ROW of such a class";
        for (int x = 1; x <= 5; x++) {
            for (int y = 1; y <= 5; y++) {
                join(20 + x, 20 + y, 20 + want[x][y]);
            }
        }
    }

    private static void joinOfRows() {
        part = "INTS, OBJECTS, ROWS else: OBJECT of ROOT";
        for (int row = 21; row <= 25; row++) {
            join(5, row, 10);
            for (int c = 0; c <= 7; c++) {
                join(row, 10 + c, 10);
                join(5, 10 + c, 10);
            }
        }
    }

    private static void joinOfOthers() {
        part = "all others TOP";
        int[] alone = {0, 1, 2, 3, 100, 101, 103, 139};
        for (int x : alone) {
            for (int y : SOME_KINDS) {
                join(x, y, x == y ? x : 0);
            }
        }
    }
}
