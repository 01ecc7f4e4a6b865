/**
 * Judges the code of a small stack machine by the KINDS of its places, and runs what was found right.
 * Capitals in comments are the document's terms.
 */
public final class KindJudge {
    public static final int BAD = -1, FULL = -3, NONE = -99999999;

    private static final int NOT_RIGHT = -2;

    private final Program program = new Program();
    private final Judging judging = new Judging();
    private final Machine machine = new Machine();

    public KindJudge() {
    }

    public int method(int params) {
        if (params < 0 || params > 4) {
            return BAD;
        }
        return program.add(params);
    }

    public int op(int method, int op, long a) {
        Code code = program.at(method);
        if (code == null) {
            return BAD;
        }
        return code.addInstruction(op, a);
    }

    public int handler(int method, int from, int to, int at, int what) {
        Code code = program.at(method);
        if (code == null || from < 0 || from >= to || to > Code.INSTRUCTIONS) {
            return BAD;
        }
        if (at < 0 || at >= Code.INSTRUCTIONS || what < 0 || what > Machine.OWN) {
            return BAD;
        }
        return code.addHandler(from, to, at, what);
    }

    public int frame(int method, int at, int depth) {
        Code code = program.at(method);
        if (code == null || at < 0 || at >= Code.INSTRUCTIONS) {
            return BAD;
        }
        if (depth < Places.NOTHING || depth > Places.STACK) {
            return BAD;
        }
        code.putFrame(at, depth);
        return 0;
    }

    public int set(int method, int at, int place, int kind) {
        Code code = program.at(method);
        if (code == null) {
            return BAD;
        }
        Places told = code.frameOf(at);
        if (told == null || !told.has(place) || !Kinds.isKind(kind)) {
            return BAD;
        }
        code.right = false;
        return told.exchange(place, kind);
    }

    public int judge(int method) {
        Code code = program.at(method);
        if (code == null) {
            return BAD;
        }
        int verdict = judging.byFrames(program, code);
        code.right = verdict == 0;
        return verdict;
    }

    public int join(int method) {
        Code code = program.at(method);
        if (code == null) {
            return BAD;
        }
        int verdict = judging.byJoining(program, code);
        code.right = verdict == 0;
        return verdict;
    }

    public int kind(int at, int place) {
        return judging.kindAhead(at, place);
    }

    public int rounds() {
        return judging.roundsGone;
    }

    public int kinds(int x, int y, boolean goes) {
        if (!Kinds.isKind(x) || !Kinds.isKind(y)) {
            return BAD;
        }
        if (goes) {
            return Kinds.goesTo(x, y) ? 1 : 0;
        }
        return Kinds.joinOf(x, y);
    }

    public int run(int method, int a, int b, int c, int d) {
        Code code = program.at(method);
        if (code == null) {
            return BAD;
        }
        if (!program.isReady(method)) {
            return NOT_RIGHT;
        }
        machine.prepare(code);
        machine.giveParams(a, b, c, d);
        return machine.goOn(program);
    }

    public int answer() {
        return machine.result;
    }

    public int told(int what) {
        switch (what) {
            case 0:
                return machine.done;
            case 1:
                return machine.failures;
            case 2:
                return machine.heap.made;
            case 3:
                return machine.failMethod;
            case 4:
                return machine.failAt;
            default:
                return BAD;
        }
    }

    public int count(int what, int method) {
        if (what == 0) {
            return program.size;
        }
        Code code = program.at(method);
        if (code == null) {
            return BAD;
        }
        switch (what) {
            case 1:
                return code.size;
            case 2:
                return code.handlers;
            case 3:
                return code.right ? 1 : 0;
            default:
                return BAD;
        }
    }

    /** The ops by their numbers. */
    private static final class Op {
        static final int INT = 0, LONG = 1, NULL = 2, LOAD = 3, STORE = 4, LOADL = 5, STOREL = 6;
        static final int REL = 7, RELL = 8, TOLONG = 9, TOINT = 10, LESS = 11;
        static final int NEW = 12, MADE = 13;
        static final int INTS = 14, ROW = 15, LENGTH = 16, GET = 17, PUT = 18, TAKE = 19, GIVE = 20;
        static final int CAST = 21, IS = 22, FIELD = 23, SETFIELD = 24, WORTH = 25;
        static final int DUP = 26, DROP = 27, SWAP = 28;
        static final int GOTO = 29, IFZERO = 30, IFNULL = 31, RETURN = 32, CALL = 33, FAIL = 34;
        static final int REMAINDER = 4;
    }

    /** The KINDS of places, how they GO to one another and are JOINED. */
    private static final class Kinds {
        static final int TOP = 0, INT = 1, LONG = 2, BEHIND = 3, NULL = 4, INTS = 5;
        static final int OBJECT = 10, ROW = 20, UNMADE = 100;
        static final int ROOT = 0, A = 1, LAST_CLASS = 5, LAST_FACE = 7;

        /** For each class or FACE a bit for each one that it is UNDER. */
        private static final int[] UNDER = {1, 3, 7, 75, 215, 163, 65, 129};
        /** The class that each one is of; a FACE has but ROOT above it. */
        private static final int[] ABOVE = {0, 0, 1, 1, 2, 1, 0, 0};

        static boolean isClass(long number) {
            return number >= A && number <= LAST_CLASS;
        }

        static boolean isClassOrFace(long number) {
            return number >= ROOT && number <= LAST_FACE;
        }

        static boolean isObject(int kind) {
            return kind >= OBJECT && kind <= OBJECT + LAST_FACE;
        }

        static boolean isRow(int kind) {
            return kind >= ROW + A && kind <= ROW + LAST_CLASS;
        }

        static boolean isUnmade(int kind) {
            return kind >= UNMADE && kind < UNMADE + Code.INSTRUCTIONS;
        }

        static boolean isKind(int kind) {
            return kind >= TOP && kind <= INTS || isObject(kind) || isRow(kind) || isUnmade(kind);
        }

        /** Of a KIND: whether it is INTS, an OBJECT, a ROW: what NULL may stand for. */
        static boolean isReference(int kind) {
            return kind >= INTS && kind < UNMADE;
        }

        /** Of a KIND: all but TOP and the two halves of a LONG. */
        static boolean isOnePlace(int kind) {
            return kind == INT || kind >= NULL;
        }

        static boolean isUnder(int lower, int upper) {
            if (lower < ROOT || lower > LAST_FACE || upper < ROOT || upper > LAST_FACE) {
                return false;
            }
            return (UNDER[lower] >> upper & 1) == 1;
        }

        static boolean goesTo(int x, int y) {
            if (x == y || y == TOP) {
                return true;
            }
            if (x == NULL) {
                return isReference(y);
            }
            if (isObject(y)) {
                // a FACE takes all that ROOT takes: only the run looks at FACES
                if (y == OBJECT + ROOT || y > OBJECT + LAST_CLASS) {
                    return isReference(x);
                }
                return isObject(x) && isUnder(x - OBJECT, y - OBJECT);
            }
            return isRow(x) && isRow(y) && isUnder(x - ROW, y - ROW);
        }

        static int joinOf(int x, int y) {
            if (x == y) {
                return x;
            }
            if (x == NULL && isReference(y)) {
                return y;
            }
            if (y == NULL && isReference(x)) {
                return x;
            }
            if (isObject(x) && isObject(y)) {
                return OBJECT + sharedClass(x - OBJECT, y - OBJECT);
            }
            if (isRow(x) && isRow(y)) {
                return ROW + sharedClass(x - ROW, y - ROW);
            }
            return isReference(x) && isReference(y) ? OBJECT + ROOT : TOP;
        }

        /** The first class, from x up, that y is UNDER too. */
        private static int sharedClass(int x, int y) {
            int shared = x;
            for (int up = 0; up < LAST_CLASS && shared > ROOT && shared <= LAST_FACE; up++) {
                if (shared <= LAST_CLASS && isUnder(y, shared)) {
                    return shared;
                }
                shared = ABOVE[shared];
            }
            return ROOT;
        }
    }

    /** The KINDS of the LOCALS and the stack at one instruction. */
    private static final class Places {
        static final int LOCALS = 8, STACK = 8, NOTHING = -1;

        final int[] kinds = new int[LOCALS + STACK];
        int depth = NOTHING;

        void clear(int newDepth) {
            for (int place = 0; place < LOCALS + STACK; place++) {
                kinds[place] = Kinds.TOP;
            }
            depth = newDepth;
        }

        /** What comes to a METHOD's first instruction. */
        void begin(int params) {
            clear(0);
            for (int local = 0; local < params && local < LOCALS; local++) {
                kinds[local] = Kinds.INT;
            }
        }

        void copyFrom(Places other) {
            System.arraycopy(other.kinds, 0, kinds, 0, LOCALS + STACK);
            depth = other.depth;
        }

        boolean has(int place) {
            return depth >= 0 && place >= 0 && place < LOCALS + depth;
        }

        int exchange(int place, int kind) {
            if (!has(place)) {
                return Kinds.TOP;
            }
            int before = kinds[place];
            kinds[place] = kind;
            return before;
        }

        /** Becomes what a HANDLER gets from an instruction to which that comes. */
        void becomeCaught(Places comes) {
            copyFrom(comes);
            depth = 0;
            push(Kinds.INT);
        }

        boolean goesTo(Places other) {
            if (depth != other.depth) {
                return false;
            }
            for (int place = 0; place < LOCALS + STACK && has(place); place++) {
                if (!Kinds.goesTo(kinds[place], other.kinds[place])) {
                    return false;
                }
            }
            return true;
        }

        /** Joins what comes into this, place by place; whether that changed something. */
        boolean takeIn(Places comes) {
            boolean changed = false;
            for (int place = 0; place < LOCALS + STACK && has(place); place++) {
                int joined = Kinds.joinOf(kinds[place], comes.kinds[place]);
                changed = changed || joined != kinds[place];
                kinds[place] = joined;
            }
            return changed;
        }

        boolean push(int kind) {
            if (depth < 0 || depth >= STACK) {
                return false;
            }
            kinds[LOCALS + depth] = kind;
            depth++;
            return true;
        }

        boolean pushLong() {
            return push(Kinds.LONG) && push(Kinds.BEHIND);
        }

        /** The KIND on top, TOP if there is none: nothing that can be used either. */
        int top() {
            return depth > 0 && depth <= STACK ? kinds[LOCALS + depth - 1] : Kinds.TOP;
        }

        /** Pops what GOES to the KIND told, which is never TOP. */
        boolean pop(int kind) {
            if (!Kinds.goesTo(top(), kind)) {
                return false;
            }
            depth--;
            return true;
        }

        boolean popLong() {
            if (depth < 2 || depth > STACK) {
                return false;
            }
            int first = LOCALS + depth - 2;
            depth -= 2;
            return kinds[first] == Kinds.LONG && kinds[first + 1] == Kinds.BEHIND;
        }

        /** Pops what takes ONE PLACE and answers its KIND, else TOP. */
        int popOne() {
            int kind = top();
            if (!Kinds.isOnePlace(kind)) {
                return Kinds.TOP;
            }
            depth--;
            return kind;
        }

        /** Pops a ROW or NULL and answers its KIND, else TOP. */
        int popRow() {
            int kind = top();
            return Kinds.isRow(kind) || kind == Kinds.NULL ? popOne() : Kinds.TOP;
        }

        /** Writes a LOCAL; the other half of a LONG that it was part of is lost. */
        void write(int local, int kind) {
            if (local < 0 || local >= LOCALS) {
                return;
            }
            boolean first = kinds[local] == Kinds.LONG;
            boolean second = kinds[local] == Kinds.BEHIND;
            // FRAMES may tell one half alone, so either half speaks for both
            if (local > 0 && (second || kinds[local - 1] == Kinds.LONG)) {
                kinds[local - 1] = Kinds.TOP;
            }
            if (local + 1 < LOCALS && (first || kinds[local + 1] == Kinds.BEHIND)) {
                kinds[local + 1] = Kinds.TOP;
            }
            kinds[local] = kind;
        }

        void writeLong(int local) {
            write(local, Kinds.TOP);
            write(local + 1, Kinds.BEHIND);
            if (local >= 0 && local < LOCALS) {
                kinds[local] = Kinds.LONG;
            }
        }

        boolean stackHolds(int kind) {
            for (int place = LOCALS; place < LOCALS + STACK && has(place); place++) {
                if (kinds[place] == kind) {
                    return true;
                }
            }
            return false;
        }

        void replace(int kind, int by) {
            for (int place = 0; place < LOCALS + STACK && has(place); place++) {
                if (kinds[place] == kind) {
                    kinds[place] = by;
                }
            }
        }
    }

    /** A METHOD. */
    private static final class Code {
        static final int INSTRUCTIONS = 40, HANDLERS = 6;

        final int number;
        final int params;
        final int[] ops = new int[INSTRUCTIONS];
        final long[] args = new long[INSTRUCTIONS];
        int size;
        final int[] froms = new int[HANDLERS];
        final int[] tos = new int[HANDLERS];
        final int[] ats = new int[HANDLERS];
        final int[] whats = new int[HANDLERS];
        int handlers;
        private final Places[] frames = new Places[INSTRUCTIONS];
        boolean right;

        Code(int number, int params) {
            this.number = number;
            this.params = params;
        }

        int addInstruction(int op, long a) {
            if (size >= INSTRUCTIONS) {
                return FULL;
            }
            ops[size] = op;
            args[size] = a;
            right = false;
            size++;
            return size - 1;
        }

        int addHandler(int from, int to, int at, int what) {
            if (handlers >= HANDLERS) {
                return FULL;
            }
            froms[handlers] = from;
            tos[handlers] = to;
            ats[handlers] = at;
            whats[handlers] = what;
            right = false;
            handlers++;
            return handlers;
        }

        void putFrame(int at, int depth) {
            if (at < 0 || at >= INSTRUCTIONS) {
                return;
            }
            if (frames[at] == null) {
                frames[at] = new Places();
            }
            frames[at].clear(depth);
            right = false;
        }

        /** The FRAME of an instruction, or null. */
        Places frameOf(int at) {
            if (at < 0 || at >= INSTRUCTIONS) {
                return null;
            }
            Places told = frames[at];
            return told == null || told.depth < 0 ? null : told;
        }

        boolean hasInstruction(long at) {
            return at >= 0 && at < size;
        }

        boolean covers(int handler, int at) {
            return handler >= 0 && handler < handlers && froms[handler] <= at && at < tos[handler];
        }

        /** Where a FAILURE leads, or -1. */
        int handlerFor(int at, int failure) {
            for (int i = 0; i < handlers && i < HANDLERS; i++) {
                if (covers(i, at) && (whats[i] == failure || whats[i] == 0)) {
                    return ats[i];
                }
            }
            return -1;
        }

        /** A bit for each METHOD that an instruction calls, come to or not. */
        int called() {
            int bits = 0;
            for (int at = 0; at < size && at < INSTRUCTIONS; at++) {
                if (ops[at] == Op.CALL && args[at] >= 0 && args[at] < number) {
                    bits |= 1 << (int) args[at];
                }
            }
            return bits;
        }
    }

    /** The METHODS. */
    private static final class Program {
        static final int METHODS = 8;

        private final Code[] codes = new Code[METHODS];
        int size;

        int add(int params) {
            if (size >= METHODS) {
                return FULL;
            }
            codes[size] = new Code(size, params);
            size++;
            return size - 1;
        }

        /** The METHOD, or null. */
        Code at(long number) {
            return number >= 0 && number < size ? codes[(int) number] : null;
        }

        /** Whether a METHOD and all that it calls are found right. */
        boolean isReady(int method) {
            if (method < 0 || method >= METHODS) {
                return false;
            }
            int needed = 1 << method;
            // a METHOD calls lesser numbers alone, so one way down meets all of them
            for (int number = method; number >= 0; number--) {
                if ((needed >> number & 1) == 1) {
                    Code code = codes[number];
                    if (code == null || !code.right) {
                        return false;
                    }
                    needed |= code.called();
                }
            }
            return true;
        }
    }

    /** Does one instruction on KINDS; an answer false means that it is WRONG. */
    private static final class Step {
        final Places now = new Places();
        /** Where the instruction leads by its a, or -1. */
        int leads;
        /** Whether something comes to the next one. */
        boolean falls;

        boolean does(Program program, Code code, int at) {
            if (!code.hasInstruction(at)) {
                return false;
            }
            int op = code.ops[at];
            long a = code.args[at];
            leads = -1;
            falls = op != Op.GOTO && op != Op.RETURN && op != Op.FAIL;
            if (op < Op.INT || op > Op.FAIL) {
                return false;
            }
            if (op <= Op.STOREL) {
                return moves(op, a);
            }
            if (op <= Op.LESS) {
                return reckons(op, a);
            }
            if (op <= Op.MADE) {
                return op == Op.NEW ? begins(at, a) : finishes(code, a);
            }
            if (op <= Op.GIVE) {
                return usesArray(op, a);
            }
            if (op <= Op.WORTH) {
                return usesObject(op, a);
            }
            if (op <= Op.SWAP) {
                return turns(op);
            }
            return op == Op.CALL ? calls(program, code, a) : goesElsewhere(code, op, a);
        }

        private boolean moves(int op, long a) {
            switch (op) {
                case Op.INT:
                    return now.push(Kinds.INT);
                case Op.LONG:
                    return now.pushLong();
                case Op.NULL:
                    return now.push(Kinds.NULL);
                default:
                    break;
            }
            if (a < 0 || a >= Places.LOCALS) {
                return false;
            }
            int local = (int) a;
            switch (op) {
                case Op.LOAD:
                    return Kinds.isOnePlace(now.kinds[local]) && now.push(now.kinds[local]);
                case Op.STORE:
                    return stores(local);
                case Op.LOADL:
                    return holdsLong(local) && now.pushLong();
                default:
                    return storesLong(local);
            }
        }

        private boolean stores(int local) {
            int kind = now.popOne();
            now.write(local, kind);
            return kind != Kinds.TOP;
        }

        private boolean storesLong(int local) {
            if (local + 1 >= Places.LOCALS || !now.popLong()) {
                return false;
            }
            now.writeLong(local);
            return true;
        }

        private boolean holdsLong(int local) {
            return local >= 0 && local + 1 < Places.LOCALS
                && now.kinds[local] == Kinds.LONG && now.kinds[local + 1] == Kinds.BEHIND;
        }

        private boolean reckons(int op, long a) {
            boolean related = a >= 0 && a <= Op.REMAINDER;
            switch (op) {
                case Op.REL:
                    return related && now.pop(Kinds.INT) && now.pop(Kinds.INT) && now.push(Kinds.INT);
                case Op.RELL:
                    return related && now.popLong() && now.popLong() && now.pushLong();
                case Op.TOLONG:
                    return now.pop(Kinds.INT) && now.pushLong();
                case Op.TOINT:
                    return now.popLong() && now.push(Kinds.INT);
                default:
                    return now.popLong() && now.popLong() && now.push(Kinds.INT);
            }
        }

        private boolean begins(int at, long a) {
            int unmade = Kinds.UNMADE + at;
            if (!Kinds.isClass(a) || now.stackHolds(unmade)) {
                return false;
            }
            // an UNMADE left in LOCALS could not be told from the new one
            now.replace(unmade, Kinds.TOP);
            return now.push(unmade);
        }

        private boolean finishes(Code code, long a) {
            int unmade = now.popOne();
            if (!Kinds.isClass(a) || !Kinds.isUnmade(unmade)) {
                return false;
            }
            int maker = unmade - Kinds.UNMADE;
            if (!code.hasInstruction(maker) || code.ops[maker] != Op.NEW || code.args[maker] != a) {
                return false;
            }
            now.replace(unmade, Kinds.OBJECT + (int) a);
            return true;
        }

        private boolean usesArray(int op, long a) {
            switch (op) {
                case Op.INTS:
                    return now.pop(Kinds.INT) && now.push(Kinds.INTS);
                case Op.ROW:
                    return Kinds.isClass(a) && now.pop(Kinds.INT) && now.push(Kinds.ROW + (int) a);
                case Op.LENGTH:
                    return (now.pop(Kinds.INTS) || now.popRow() != Kinds.TOP) && now.push(Kinds.INT);
                case Op.GET:
                    return now.pop(Kinds.INT) && now.pop(Kinds.INTS) && now.push(Kinds.INT);
                case Op.PUT:
                    return now.pop(Kinds.INT) && now.pop(Kinds.INT) && now.pop(Kinds.INTS);
                case Op.TAKE:
                    return now.pop(Kinds.INT) && takes(now.popRow());
                default:
                    return now.pop(Kinds.OBJECT + Kinds.ROOT) && now.pop(Kinds.INT) && now.popRow() != Kinds.TOP;
            }
        }

        private boolean takes(int row) {
            if (row == Kinds.NULL) {
                return now.push(Kinds.NULL);
            }
            return Kinds.isRow(row) && now.push(row - Kinds.ROW + Kinds.OBJECT);
        }

        private boolean usesObject(int op, long a) {
            switch (op) {
                case Op.CAST:
                    return Kinds.isClassOrFace(a) && now.pop(Kinds.OBJECT + Kinds.ROOT)
                        && now.push(Kinds.OBJECT + (int) a);
                case Op.IS:
                    return Kinds.isClassOrFace(a) && now.pop(Kinds.OBJECT + Kinds.ROOT) && now.push(Kinds.INT);
                case Op.SETFIELD:
                    return now.pop(Kinds.INT) && now.pop(Kinds.OBJECT + Kinds.A);
                default:
                    return now.pop(Kinds.OBJECT + Kinds.A) && now.push(Kinds.INT);
            }
        }

        private boolean turns(int op) {
            int upper = now.popOne();
            if (upper == Kinds.TOP || op == Op.DROP) {
                return upper != Kinds.TOP;
            }
            if (op == Op.DUP) {
                return now.push(upper) && now.push(upper);
            }
            int lower = now.popOne();
            return lower != Kinds.TOP && now.push(upper) && now.push(lower);
        }

        private boolean calls(Program program, Code code, long a) {
            Code called = a < code.number ? program.at(a) : null;
            if (called == null) {
                return false;
            }
            for (int i = 0; i < called.params; i++) {
                if (!now.pop(Kinds.INT)) {
                    return false;
                }
            }
            return now.push(Kinds.INT);
        }

        private boolean goesElsewhere(Code code, int op, long a) {
            if (op == Op.RETURN || op == Op.FAIL) {
                return now.pop(Kinds.INT);
            }
            if (!code.hasInstruction(a)) {
                return false;
            }
            leads = (int) a;
            if (op == Op.IFZERO) {
                return now.pop(Kinds.INT);
            }
            return op == Op.GOTO || now.pop(Kinds.OBJECT + Kinds.ROOT);
        }
    }

    /** Judges a METHOD both ways and keeps what was ahead of each instruction. */
    private static final class Judging {
        private static final int MANY_ROUNDS = 100000;

        private final Places[] ahead = new Places[Code.INSTRUCTIONS];
        private final Places caught = new Places();
        private final Step step = new Step();
        private int judgedSize;
        private boolean changed;
        int roundsGone;

        Judging() {
            for (int at = 0; at < Code.INSTRUCTIONS; at++) {
                ahead[at] = new Places();
            }
        }

        int kindAhead(int at, int place) {
            if (at < 0 || at >= judgedSize || at >= Code.INSTRUCTIONS || !ahead[at].has(place)) {
                return NONE;
            }
            return ahead[at].kinds[place];
        }

        private void forget(Code code) {
            judgedSize = code.size;
            for (int at = 0; at < Code.INSTRUCTIONS; at++) {
                ahead[at].depth = Places.NOTHING;
            }
        }

        /** 0, or 1 and the first WRONG instruction. */
        int byFrames(Program program, Code code) {
            forget(code);
            Places now = step.now;
            now.begin(code.params);
            boolean comes = true;
            for (int at = 0; at < code.size && at < Code.INSTRUCTIONS; at++) {
                Places told = code.frameOf(at);
                if (told == null ? !comes : comes && !now.goesTo(told)) {
                    return 1 + at;
                }
                if (told != null) {
                    now.copyFrom(told);
                }
                ahead[at].copyFrom(now);
                if (!step.does(program, code, at) || !leadsToFrame(code) || !handlersFit(code, at)) {
                    return 1 + at;
                }
                comes = step.falls;
            }
            return comes ? 1 + code.size : 0;
        }

        private boolean leadsToFrame(Code code) {
            if (step.leads < 0) {
                return true;
            }
            Places told = code.frameOf(step.leads);
            return told != null && step.now.goesTo(told);
        }

        private boolean handlersFit(Code code, int at) {
            caught.becomeCaught(ahead[at]);
            for (int i = 0; i < code.handlers; i++) {
                if (code.covers(i, at)) {
                    Places told = code.frameOf(code.ats[i]);
                    if (told == null || !code.hasInstruction(code.ats[i]) || !caught.goesTo(told)) {
                        return false;
                    }
                }
            }
            return true;
        }

        /** 0, or 1 and the first WRONG instruction. */
        int byJoining(Program program, Code code) {
            forget(code);
            roundsGone = 0;
            step.now.begin(code.params);
            // without instructions the first one is not there: WRONG before any ROUND
            if (!arrives(code, 0, step.now)) {
                return 1;
            }
            changed = true;
            while (changed && roundsGone < MANY_ROUNDS) {
                changed = false;
                roundsGone++;
                for (int at = 0; at < code.size && at < Code.INSTRUCTIONS; at++) {
                    if (ahead[at].depth >= 0 && !handsOn(program, code, at)) {
                        return 1 + at;
                    }
                }
            }
            return 0;
        }

        /** Whether what comes to an instruction, and what it leaves, can come to all behind it. */
        private boolean handsOn(Program program, Code code, int at) {
            step.now.copyFrom(ahead[at]);
            if (!step.does(program, code, at)) {
                return false;
            }
            if (step.falls && !arrives(code, at + 1, step.now)) {
                return false;
            }
            if (step.leads >= 0 && !arrives(code, step.leads, step.now)) {
                return false;
            }
            caught.becomeCaught(ahead[at]);
            for (int i = 0; i < code.handlers; i++) {
                if (code.covers(i, at) && !arrives(code, code.ats[i], caught)) {
                    return false;
                }
            }
            return true;
        }

        /** False if that one is not there, and for two depths: the one that leaves it is WRONG. */
        private boolean arrives(Code code, int at, Places comes) {
            if (!code.hasInstruction(at) || at >= Code.INSTRUCTIONS) {
                return false;
            }
            Places there = ahead[at];
            if (there.depth < 0) {
                there.copyFrom(comes);
                changed = true;
                return true;
            }
            if (there.depth != comes.depth) {
                return false;
            }
            if (there.takeIn(comes)) {
                changed = true;
            }
            return true;
        }
    }

    /** The arrays and OBJECTS of a RUN; 0 stands for null, others for the first made, and so on. */
    private static final class Heap {
        static final int ROOM = 20, ITEMS = 30;

        private final int[] kinds = new int[ROOM + 1];
        private final int[] lengths = new int[ROOM + 1];
        private final int[] fields = new int[ROOM + 1];
        private final int[] items = new int[(ROOM + 1) * ITEMS];
        int made;

        boolean isNull(int thing) {
            return thing <= 0 || thing > made || thing > ROOM;
        }

        /** A new thing, or 0: there is no ROOM. */
        int make(int kind, int length) {
            if (made >= ROOM || length < 0 || length > ITEMS) {
                return 0;
            }
            made++;
            kinds[made] = kind;
            lengths[made] = length;
            fields[made] = 0;
            for (int index = 0; index < ITEMS; index++) {
                items[made * ITEMS + index] = 0;
            }
            return made;
        }

        int length(int thing) {
            return isNull(thing) ? 0 : lengths[thing];
        }

        boolean hasItem(int thing, int index) {
            return !isNull(thing) && index >= 0 && index < lengths[thing];
        }

        int item(int thing, int index) {
            return hasItem(thing, index) ? items[thing * ITEMS + index] : 0;
        }

        void putItem(int thing, int index, int value) {
            if (hasItem(thing, index)) {
                items[thing * ITEMS + index] = value;
            }
        }

        int field(int thing) {
            return isNull(thing) ? 0 : fields[thing];
        }

        void putField(int thing, int value) {
            if (!isNull(thing)) {
                fields[thing] = value;
            }
        }

        /** Whether it is not null and an array or OBJECT that can be taken for the class or FACE. */
        boolean isOf(int thing, int classOrFace) {
            if (isNull(thing)) {
                return false;
            }
            if (!Kinds.isObject(kinds[thing])) {
                return classOrFace == Kinds.ROOT;
            }
            return Kinds.isUnder(kinds[thing] - Kinds.OBJECT, classOrFace);
        }

        /** Whether a ROW can hold it. */
        boolean canHold(int row, int thing) {
            return isNull(thing) || !isNull(row) && isOf(thing, kinds[row] - Kinds.ROW);
        }

        int worth(int thing) {
            if (isNull(thing)) {
                return 0;
            }
            int worthOfA = 1 + fields[thing];
            int worthOfF = 10;
            int worthOfG = 100 + fields[thing];
            switch (kinds[thing] - Kinds.OBJECT) {
                case 1:
                    return worthOfA;
                case 2:
                    return 2 * worthOfA;
                case 3:
                    return worthOfF + worthOfA;
                case 4:
                    return 2 * worthOfA - worthOfF + worthOfG;
                default:
                    return worthOfG;
            }
        }
    }

    /** RUNS a METHOD that is found right; each CALL takes one level more. */
    private static final class Machine {
        static final int NULL = 1, INDEX = 2, STORE = 3, CAST = 4, SIZE = 5, BY_ZERO = 6, OWN = 7;
        private static final int RETURNED = 0, SPENT = 8, ROOM = 9, TOO_MANY = 10;
        /** What an instruction answers besides a FAILURE. */
        private static final int GOES_ON = 0, MOVED = -1;
        private static final int RUNNING = -1;
        private static final int INSTRUCTIONS = 2000, FAILURES = 13, LEVELS = Program.METHODS;

        final Heap heap = new Heap();
        private final Code[] codes = new Code[LEVELS];
        private final int[] ats = new int[LEVELS];
        private final int[] depths = new int[LEVELS];
        /** A LONG stands in the first of its two places. */
        private final long[] locals = new long[LEVELS * Places.LOCALS];
        private final long[] stack = new long[LEVELS * Places.STACK];
        private int level;
        private int outcome;
        private int ownFailure;
        int result;
        int done;
        int failures;
        int failMethod = NONE;
        int failAt = NONE;

        void prepare(Code code) {
            level = 0;
            enter(code);
            heap.made = 0;
            outcome = RUNNING;
            result = 0;
            done = 0;
            failures = 0;
            failMethod = NONE;
            failAt = NONE;
        }

        /** The first LOCALS, whether they are params or not: the others are TOP and never looked at. */
        void giveParams(int a, int b, int c, int d) {
            locals[0] = a;
            locals[1] = b;
            locals[2] = c;
            locals[3] = d;
        }

        int goOn(Program program) {
            while (outcome == RUNNING && done < INSTRUCTIONS) {
                done++;
                doNext(program);
            }
            if (outcome == RUNNING) {
                outcome = SPENT;
            }
            return outcome;
        }

        private void enter(Code code) {
            codes[level] = code;
            ats[level] = 0;
            depths[level] = 0;
        }

        private void doNext(Program program) {
            Code code = codes[level];
            int at = ats[level];
            if (code == null || !code.hasInstruction(at)) {
                return;
            }
            int came = does(program, code.ops[at], code.args[at]);
            if (came == GOES_ON) {
                ats[level] = at + 1;
            } else if (came != MOVED) {
                arises(came);
            }
        }

        private void arises(int failure) {
            failures++;
            Code code = codes[level];
            failMethod = code == null ? NONE : code.number;
            failAt = ats[level];
            int told = failure == OWN ? ownFailure : failure;
            if (failures >= FAILURES) {
                end(TOO_MANY, told);
                return;
            }
            for (int open = level; open >= 0; open--) {
                level = open;
                if (catches(codes[open], failure, told)) {
                    return;
                }
            }
            end(failure, told);
        }

        private boolean catches(Code code, int failure, int told) {
            int handler = code == null ? -1 : code.handlerFor(ats[level], failure);
            if (handler < 0) {
                return false;
            }
            ats[level] = handler;
            depths[level] = 0;
            push(told);
            return true;
        }

        private void end(int how, int told) {
            outcome = how;
            result = told;
        }

        private void push(long value) {
            if (depths[level] >= 0 && depths[level] < Places.STACK) {
                stack[level * Places.STACK + depths[level]] = value;
                depths[level]++;
            }
        }

        private long pop() {
            if (depths[level] <= 0 || depths[level] > Places.STACK) {
                return 0;
            }
            depths[level]--;
            return stack[level * Places.STACK + depths[level]];
        }

        private int popInt() {
            return (int) pop();
        }

        private void pushLong(long value) {
            push(value);
            push(0);
        }

        private long popLong() {
            pop();
            return pop();
        }

        private int does(Program program, int op, long a) {
            if (op <= Op.STOREL) {
                return moves(op, a);
            }
            if (op <= Op.LESS) {
                return reckons(op, a);
            }
            if (op <= Op.ROW) {
                return makes(op, a);
            }
            if (op <= Op.GIVE) {
                return usesArray(op);
            }
            if (op <= Op.IS) {
                return asks(op, (int) a);
            }
            if (op <= Op.WORTH) {
                return usesObject(op);
            }
            if (op <= Op.SWAP) {
                return turns(op);
            }
            return leads(program, op, a);
        }

        private int moves(int op, long a) {
            switch (op) {
                case Op.INT:
                    push((int) a);
                    return GOES_ON;
                case Op.LONG:
                    pushLong(a);
                    return GOES_ON;
                case Op.NULL:
                    push(0);
                    return GOES_ON;
                default:
                    break;
            }
            if (a < 0 || a >= Places.LOCALS) {
                return GOES_ON;
            }
            int local = level * Places.LOCALS + (int) a;
            switch (op) {
                case Op.LOAD:
                    push(locals[local]);
                    return GOES_ON;
                case Op.STORE:
                    locals[local] = pop();
                    return GOES_ON;
                case Op.LOADL:
                    pushLong(locals[local]);
                    return GOES_ON;
                default:
                    locals[local] = popLong();
                    return GOES_ON;
            }
        }

        private int reckons(int op, long a) {
            switch (op) {
                case Op.REL:
                    return relatesInts((int) a);
                case Op.RELL:
                    return relatesLongs((int) a);
                case Op.TOLONG:
                    pushLong(popInt());
                    return GOES_ON;
                case Op.TOINT:
                    push((int) popLong());
                    return GOES_ON;
                default:
                    long y = popLong();
                    long x = popLong();
                    push(x < y ? 1 : 0);
                    return GOES_ON;
            }
        }

        private int relatesInts(int relation) {
            int y = popInt();
            int x = popInt();
            if (relation >= 3 && y == 0) {
                return BY_ZERO;
            }
            // the lowest bits of what LONGS answer are what INTS answer
            push((int) related(relation, x, y));
            return GOES_ON;
        }

        private int relatesLongs(int relation) {
            long y = popLong();
            long x = popLong();
            if (relation >= 3 && y == 0) {
                return BY_ZERO;
            }
            pushLong(related(relation, x, y));
            return GOES_ON;
        }

        private static long related(int relation, long x, long y) {
            switch (relation) {
                case 0:
                    return x + y;
                case 1:
                    return x - y;
                case 2:
                    return x * y;
                case 3:
                    return y == 0 ? 0 : x / y;
                default:
                    return y == 0 ? 0 : x % y;
            }
        }

        private int makes(int op, long a) {
            switch (op) {
                case Op.NEW:
                    return pushNew(Kinds.OBJECT + (int) a, 0);
                case Op.MADE:
                    pop();
                    return GOES_ON;
                case Op.INTS:
                    return pushNew(Kinds.INTS, popInt());
                default:
                    return pushNew(Kinds.ROW + (int) a, popInt());
            }
        }

        private int pushNew(int kind, int length) {
            if (length < 0) {
                return SIZE;
            }
            int thing = heap.make(kind, length);
            if (thing == 0) {
                end(ROOM, 0);
                return MOVED;
            }
            push(thing);
            return GOES_ON;
        }

        private int usesArray(int op) {
            boolean writes = op == Op.PUT || op == Op.GIVE;
            int value = writes ? popInt() : 0;
            int index = op == Op.LENGTH ? 0 : popInt();
            int array = popInt();
            if (heap.isNull(array)) {
                return NULL;
            }
            if (op == Op.LENGTH) {
                push(heap.length(array));
                return GOES_ON;
            }
            if (!heap.hasItem(array, index)) {
                return INDEX;
            }
            if (op == Op.GIVE && !heap.canHold(array, value)) {
                return STORE;
            }
            if (writes) {
                heap.putItem(array, index, value);
            } else {
                push(heap.item(array, index));
            }
            return GOES_ON;
        }

        private int asks(int op, int classOrFace) {
            int thing = popInt();
            boolean fits = heap.isOf(thing, classOrFace);
            if (op == Op.IS) {
                push(fits ? 1 : 0);
                return GOES_ON;
            }
            if (!fits && !heap.isNull(thing)) {
                return CAST;
            }
            push(thing);
            return GOES_ON;
        }

        private int usesObject(int op) {
            int value = op == Op.SETFIELD ? popInt() : 0;
            int object = popInt();
            if (heap.isNull(object)) {
                return NULL;
            }
            if (op == Op.FIELD) {
                push(heap.field(object));
            } else if (op == Op.SETFIELD) {
                heap.putField(object, value);
            } else {
                push(heap.worth(object));
            }
            return GOES_ON;
        }

        private int turns(int op) {
            long upper = pop();
            if (op == Op.DUP) {
                push(upper);
                push(upper);
            } else if (op == Op.SWAP) {
                long lower = pop();
                push(upper);
                push(lower);
            }
            return GOES_ON;
        }

        private int leads(Program program, int op, long a) {
            switch (op) {
                case Op.GOTO:
                    return jumpsIf(true, a);
                case Op.IFZERO:
                    return jumpsIf(popInt() == 0, a);
                case Op.IFNULL:
                    return jumpsIf(heap.isNull(popInt()), a);
                case Op.RETURN:
                    return returns(popInt());
                case Op.CALL:
                    return calls(program.at(a));
                default:
                    ownFailure = popInt();
                    return OWN;
            }
        }

        private int jumpsIf(boolean jumps, long a) {
            if (!jumps) {
                return GOES_ON;
            }
            ats[level] = (int) a;
            return MOVED;
        }

        private int returns(int value) {
            if (level == 0) {
                end(RETURNED, value);
                return MOVED;
            }
            level--;
            push(value);
            ats[level]++;
            return MOVED;
        }

        private int calls(Code called) {
            // a METHOD calls lesser numbers alone, so there are always levels enough
            if (called == null || level + 1 >= LEVELS) {
                return GOES_ON;
            }
            int first = (level + 1) * Places.LOCALS;
            for (int i = called.params - 1; i >= 0; i--) {
                locals[first + i] = pop();
            }
            level++;
            enter(called);
            return MOVED;
        }
    }
}
