import java.lang.reflect.Array;
import java.util.ArrayList;
import java.util.List;

/** A plain model of a RUN on Java's own objects, arrays and exceptions; it stops at a value of another kind. */
final class ModelRun {
    interface F {
        default int worth() {
            return 10;
        }
    }

    interface G {
        int field();

        default int worth() {
            return 100 + field();
        }
    }

    static class A {
        int field;

        int value() {
            return 1 + field;
        }
    }

    static class B extends A {
        @Override
        int value() {
            return super.value() * 2;
        }
    }

    static class C extends A implements F {
        @Override
        int value() {
            return F.super.worth() + super.value();
        }
    }

    static class D extends B implements F, G {
        @Override
        public int field() {
            return field;
        }

        @Override
        public int worth() {
            return F.super.worth();
        }

        @Override
        int value() {
            return super.value() - F.super.worth() + G.super.worth();
        }
    }

    static class E extends A implements G {
        @Override
        public int field() {
            return field;
        }

        @Override
        int value() {
            return G.super.worth();
        }
    }

    static final Class<?>[] CLASSES = {Object.class, A.class, B.class, C.class, D.class, E.class, F.class, G.class};
    private static final Object HALF = new Object();

    /** A RUN that no HANDLER can go on with. */
    private static final class Ended extends RuntimeException {
        private static final long serialVersionUID = 1L;
        final int how;

        Ended(int how) {
            this.how = how;
        }
    }

    /** FAIL, and every FAILURE once it is known by number. */
    private static final class Failure extends RuntimeException {
        private static final long serialVersionUID = 1L;
        final int number, told;

        Failure(int number, int told) {
            this.number = number;
            this.told = told;
        }
    }

    private final List<Model.Method> methods;
    int how, answer, done, failures, made;
    int failMethod = Model.NONE, failAt = Model.NONE;

    ModelRun(List<Model.Method> methods) {
        this.methods = methods;
    }

    void run(int number, int[] params) {
        try {
            answer = call(number, params);
        } catch (Failure f) {
            how = f.number;
            answer = f.told;
        } catch (Ended e) {
            how = e.how;
        }
    }

    private int call(int number, int[] params) {
        Model.Method m = methods.get(number);
        Object[] locals = new Object[8];
        for (int i = 0; i < m.params; i++) {
            locals[i] = params[i];
        }
        List<Object> stack = new ArrayList<>();
        int at = 0;
        while (true) {
            try {
                at = step(m, number, at, locals, stack);
                if (at < 0) {
                    return (Integer) pop(stack);
                }
            } catch (Failure f) {
                at = handler(m, at, f);
                stack.clear();
                stack.add(f.told);
            }
        }
    }

    private static int handler(Model.Method m, int at, Failure f) {
        for (Model.Handler h : m.handlers) {
            if (h.from <= at && at < h.to && (h.what == 0 || h.what == f.number)) {
                return h.at;
            }
        }
        throw f;
    }

    private static Object pop(List<Object> stack) {
        return stack.remove(stack.size() - 1);
    }

    private static long popLong(List<Object> stack) {
        if (pop(stack) != HALF) {
            throw new IllegalStateException("no half of a LONG");
        }
        return (Long) pop(stack);
    }

    private Failure arose(int number, int told, int method, int at) {
        failures++;
        failMethod = method;
        failAt = at;
        if (failures == 13) {
            answer = told;
            throw new Ended(10);
        }
        return new Failure(number, told);
    }

    /** The next instruction, or -1 with what is returned on the stack. */
    private int step(Model.Method m, int number, int at, Object[] locals, List<Object> stack) {
        if (done == 2000) {
            throw new Ended(8);
        }
        done++;
        Model.Instr in = m.code.get(at);
        int failure;
        try {
            if (in.op >= 29) {
                return flow(in, at, number, stack);
            }
            if (in.op <= 11) {
                numbers(in, locals, stack);
            } else if (in.op <= 15) {
                make(in, stack);
            } else {
                use(in, stack);
            }
            return at + 1;
        } catch (NullPointerException e) {
            failure = 1;
        } catch (ArrayIndexOutOfBoundsException e) {
            failure = 2;
        } catch (ArrayStoreException e) {
            failure = 3;
        } catch (ClassCastException e) {
            failure = 4;
            if (in.op != 21) {
                throw new IllegalStateException("a value of another kind at op " + in.op, e);
            }
        } catch (NegativeArraySizeException e) {
            failure = 5;
        } catch (ArithmeticException e) {
            failure = 6;
        }
        throw arose(failure, failure, number, at);
    }

    private int flow(Model.Instr in, int at, int number, List<Object> stack) {
        switch (in.op) {
            case 29:
                return (int) in.a;
            case 30:
                return (Integer) pop(stack) == 0 ? (int) in.a : at + 1;
            case 31:
                return pop(stack) == null ? (int) in.a : at + 1;
            case 32:
                return -1;
            case 33:
                int[] params = new int[methods.get((int) in.a).params];
                for (int i = params.length - 1; i >= 0; i--) {
                    params[i] = (Integer) pop(stack);
                }
                stack.add(call((int) in.a, params));
                return at + 1;
            default:
                throw arose(7, (Integer) pop(stack), number, at);
        }
    }

    private static void addLong(List<Object> stack, long value) {
        stack.add(value);
        stack.add(HALF);
    }

    private static void numbers(Model.Instr in, Object[] locals, List<Object> stack) {
        int a = (int) in.a;
        switch (in.op) {
            case 0: stack.add(a); break;
            case 1: addLong(stack, in.a); break;
            case 2: stack.add(null); break;
            case 3: stack.add(locals[a]); break;
            case 4: locals[a] = pop(stack); break;
            case 5: addLong(stack, (Long) locals[a]); break;
            case 6: locals[a] = popLong(stack); locals[a + 1] = HALF; break;
            case 7: {
                int y = (Integer) pop(stack);
                int x = (Integer) pop(stack);
                stack.add(a == 0 ? x + y : a == 1 ? x - y : a == 2 ? x * y : a == 3 ? x / y : x % y);
                break;
            }
            case 8: {
                long y = popLong(stack);
                long x = popLong(stack);
                addLong(stack, a == 0 ? x + y : a == 1 ? x - y : a == 2 ? x * y : a == 3 ? x / y : x % y);
                break;
            }
            case 9: addLong(stack, (Integer) pop(stack)); break;
            case 10: stack.add((int) popLong(stack)); break;
            default: {
                long y = popLong(stack);
                stack.add(popLong(stack) < y ? 1 : 0);
            }
        }
    }

    private void make(Model.Instr in, List<Object> stack) {
        if (in.op == 13) {
            pop(stack);
            return;
        }
        int size = in.op == 12 ? 0 : (Integer) pop(stack);
        if (size >= 0 && (size > 30 || made == 20)) {
            throw new Ended(9);
        }
        stack.add(in.op == 12 ? fresh((int) in.a) : in.op == 14 ? new int[size]
            : Array.newInstance(CLASSES[(int) in.a], size));
        made++;
    }

    private static Object fresh(int c) {
        switch (c) {
            case 1: return new A();
            case 2: return new B();
            case 3: return new C();
            case 4: return new D();
            default: return new E();
        }
    }

    private static void use(Model.Instr in, List<Object> stack) {
        Object x;
        int i;
        switch (in.op) {
            case 16:
                x = pop(stack);
                stack.add(x instanceof int[] ? ((int[]) x).length : ((Object[]) x).length);
                break;
            case 17: i = (Integer) pop(stack); stack.add(((int[]) pop(stack))[i]); break;
            case 18: {
                int value = (Integer) pop(stack);
                i = (Integer) pop(stack);
                ((int[]) pop(stack))[i] = value;
                break;
            }
            case 19: i = (Integer) pop(stack); stack.add(((Object[]) pop(stack))[i]); break;
            case 20: x = pop(stack); i = (Integer) pop(stack); ((Object[]) pop(stack))[i] = x; break;
            case 21: stack.add(CLASSES[(int) in.a].cast(pop(stack))); break;
            case 22: stack.add(CLASSES[(int) in.a].isInstance(pop(stack)) ? 1 : 0); break;
            case 23: stack.add(((A) pop(stack)).field); break;
            case 24: i = (Integer) pop(stack); ((A) pop(stack)).field = i; break;
            case 25: stack.add(((A) pop(stack)).value()); break;
            case 26: stack.add(stack.get(stack.size() - 1)); break;
            case 27: pop(stack); break;
            default: stack.add(stack.size() - 2, pop(stack));
        }
    }
}
