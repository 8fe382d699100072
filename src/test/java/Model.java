import java.util.ArrayList;
import java.util.Arrays;
import java.util.HashMap;
import java.util.List;
import java.util.Map;
import java.util.Objects;

/** The document's classes and machine once more, in the plainest form: methods call methods, a status is thrown. */
final class Model {
    record Constant(int sort, long value, int length) { }

    record Member(int owner, boolean isField, int name, int shape, int flags, int locals, List<int[]> code) { }

    record Text(long bytes, int length) { }

    static final class Thing {
        final int type;
        final Map<Member, Object> fields = new HashMap<>();

        Thing(int type) {
            this.type = type;
        }
    }

    static final class Stop extends RuntimeException {
        private static final long serialVersionUID = 1L;
        final int status;

        Stop(int status) {
            super(null, null, false, false);
            this.status = status;
        }
    }

    final List<Integer> parents = new ArrayList<>();
    final List<List<Constant>> pools = new ArrayList<>();
    final List<Member> members = new ArrayList<>();

    private final Map<Member, Object> statics = new HashMap<>();
    private final boolean[] isInitialised = new boolean[8];
    private int objects;
    private int steps;
    int done;
    int status;
    long result;
    final List<String> rows = new ArrayList<>();

    void type(int parent) {
        parents.add(parent);
        pools.add(new ArrayList<>());
    }

    List<Integer> lineOf(int type) {
        List<Integer> line = new ArrayList<>();
        for (int c = type; c >= 0; c = parents.get(c)) {
            line.add(c);
        }
        return line;
    }

    Member find(int type, boolean isField, int name, int shape) {
        for (int c : lineOf(type)) {
            for (Member m : members) {
                boolean fits = m.owner == c && m.isField == isField && m.name == name && m.shape == shape;
                if (fits && (isField || name != 0)) {
                    return m;
                }
            }
        }
        return null;
    }

    // Which instruction is wrong.

    int wrong(Member m) {
        StringBuilder stack = new StringBuilder();
        for (int i = 0; i < m.code.size(); i++) {
            int[] ins = m.code.get(i);
            if (stack.length() > 0 && isTarget(m, i)) {
                return i;
            }
            String effect = effect(m, ins[0], ins[1]);
            if (effect == null) {
                return i;
            }
            String takes = effect.substring(0, effect.indexOf('>'));
            String gives = effect.substring(effect.indexOf('>') + 1);
            if (stack.length() < takes.length()) {
                return i;
            }
            String top = stack.substring(stack.length() - takes.length());
            for (int k = 0; k < takes.length(); k++) {
                if (takes.charAt(k) != '?' && takes.charAt(k) != top.charAt(k)) {
                    return i;
                }
            }
            stack.setLength(stack.length() - takes.length());
            stack.append(gives.replace("?", top));
            boolean mustBeEmpty = ins[0] == Ops.ZERO || ins[0] == Ops.GOTO || ins[0] == Ops.RET;
            if (stack.length() > 8 || mustBeEmpty && stack.length() > 0) {
                return i;
            }
        }
        int last = m.code.isEmpty() ? Ops.POP : m.code.get(m.code.size() - 1)[0];
        return last == Ops.GOTO || last == Ops.RET ? -1 : m.code.size();
    }

    private static boolean isTarget(Member m, int i) {
        for (int[] ins : m.code) {
            if ((ins[0] == Ops.ZERO || ins[0] == Ops.GOTO) && ins[1] == i) {
                return true;
            }
        }
        return false;
    }

    private static char kind(int bit) {
        return bit == 0 ? 'n' : 'r';
    }

    private static String arguments(int shape) {
        StringBuilder text = new StringBuilder();
        for (int i = 0; i < (shape & 3); i++) {
            text.append(kind(shape >> 2 + i & 1));
        }
        return text.toString();
    }

    char local(Member m, int i) {
        String first = ((m.flags & 1) == 0 ? "r" : "") + arguments(m.shape);
        return i < first.length() ? first.charAt(i) : kind(m.locals >> i & 1);
    }

    private static char resultOf(int shape) {
        return kind(shape >> 5);
    }

    /** What an instruction takes, and gives; null if its a is none, or of another sort. */
    private String effect(Member m, int op, int a) {
        String plain = switch (op) {
            case Ops.NULL -> ">r";
            case Ops.ADD, Ops.SUB, Ops.MUL, Ops.XOR, Ops.LESS -> "nn>n";
            case Ops.SAME -> "rr>n";
            case Ops.OUT -> "n>";
            case Ops.SAY -> "r>";
            case Ops.RET -> resultOf(m.shape) + ">";
            case Ops.POP -> "?>";
            case Ops.DUP -> "?>??";
            default -> null;
        };
        if (plain != null) {
            return plain;
        }
        switch (op) {
            case Ops.LOAD:
                return a < 0 || a > 7 ? null : ">" + local(m, a);
            case Ops.STORE:
                return a < 0 || a > 7 ? null : local(m, a) + ">";
            case Ops.ZERO:
            case Ops.GOTO:
                return a < 0 || a >= m.code.size() ? null : op == Ops.ZERO ? "n>" : ">";
            case Ops.NEW:
                return a < 0 || a >= parents.size() ? null : ">r";
            default:
                List<Constant> pool = pools.get(m.owner);
                return a < 0 || a >= pool.size() ? null : effectOfEntry(op, pool.get(a));
        }
    }

    private static String effectOfEntry(int op, Constant c) {
        int shape = (int) (c.value >> 16);
        if (op == Ops.PUSH) {
            return c.sort > 3 ? null : c.sort == 3 ? ">r" : ">n";
        }
        if (op == Ops.STATIC || op == Ops.VIRTUAL) {
            String receiver = op == Ops.VIRTUAL ? "r" : "";
            return c.sort != 4 ? null : receiver + arguments(shape) + ">" + resultOf(shape);
        }
        if (c.sort != 5) {
            return null;
        }
        return switch (op) {
            case Ops.GETS -> ">" + kind(shape);
            case Ops.PUTS -> kind(shape) + ">";
            case Ops.GETF -> "r>" + kind(shape);
            default -> "r" + kind(shape) + ">";
        };
    }

    // Why an instruction is left; 0 if it is hidden, -1 if it can't be.

    int reason(int op, Constant c, int poolSize) {
        if (op != Ops.PUSH && (op < Ops.STATIC || op > Ops.PUTF)) {
            return -1;
        }
        if (op != Ops.PUSH) {
            int owner = (int) (c.value & 255);
            int name = (int) (c.value >> 8 & 255);
            int shape = (int) (c.value >> 16);
            if (c.sort == 4 && name == 0) {
                return 1;
            }
            if (op == Ops.VIRTUAL && (shape & 3) == 3) {
                return 2;
            }
            Member f = op == Ops.PUTS || op == Ops.PUTF ? find(owner, true, name, shape) : null;
            if (f != null && (f.flags & 2) != 0) {
                return 3;
            }
        }
        return poolSize == 32 ? 4 : 0;
    }

    // Running.

    void run(Member start, int maySteps) {
        statics.clear();
        Arrays.fill(isInitialised, false);
        rows.clear();
        objects = 0;
        done = 0;
        result = 0;
        steps = maySteps;
        try {
            Object value = call(start, new ArrayList<>(), 1);
            status = 0;
            result = resultOf(start.shape) == 'n' ? (Long) value : rowOf(value)[0] << 56 ^ rowOf(value)[1];
        } catch (Stop stop) {
            status = stop.status;
        }
    }

    private static long[] rowOf(Object value) {
        if (value == null) {
            return new long[] {4, 0};
        }
        return value instanceof Text t ? new long[] {2, t.bytes} : new long[] {3, ((Thing) value).type};
    }

    private void log(long kind, long value) {
        if (rows.size() == 300) {
            throw new Stop(8);
        }
        rows.add(kind + ":" + value);
    }

    private void mayDoOneMore() {
        if (done == steps) {
            throw new Stop(1);
        }
    }

    private void initialise(int type, int depth) {
        List<Integer> line = lineOf(type);
        for (int i = line.size() - 1; i >= 0; i--) {
            int c = line.get(i);
            if (!isInitialised[c]) {
                mayDoOneMore();
                log(5, c);
                isInitialised[c] = true;
                for (Member m : members) {
                    if (m.owner == c && !m.isField && m.name == 0) {
                        call(m, new ArrayList<>(), depth + 1);
                    }
                }
            }
        }
        mayDoOneMore();
    }

    private Object call(Member m, List<Object> taken, int depth) {
        if (depth > 16) {
            throw new Stop(6);
        }
        Object[] locals = new Object[8];
        for (int i = 0; i < 8; i++) {
            locals[i] = i < taken.size() ? taken.get(i) : local(m, i) == 'n' ? (Object) 0L : null;
        }
        if (depth == 1) {
            mayDoOneMore();
            initialise(m.owner, depth);
        }
        List<Object> stack = new ArrayList<>();
        int at = 0;
        while (true) {
            mayDoOneMore();
            int[] ins = m.code.get(at);
            if (ins[0] == Ops.RET) {
                done++;
                return stack.get(0);
            }
            if (ins[0] == Ops.GOTO || ins[0] == Ops.ZERO && (Long) stack.remove(0) == 0) {
                done++;
                at = ins[1];
                continue;
            }
            if (ins[0] == Ops.LOAD) {
                stack.add(locals[ins[1]]);
            } else if (ins[0] == Ops.STORE) {
                locals[ins[1]] = pop(stack);
            } else if (ins[0] >= Ops.STATIC && ins[0] <= Ops.PUTF) {
                site(m, ins[0], pools.get(m.owner).get(ins[1]), stack, depth);
                done--;
            } else if (ins[0] != Ops.ZERO) {
                simple(m, ins[0], ins[1], stack, depth);
            }
            done++;
            at++;
        }
    }

    private static Object pop(List<Object> stack) {
        return stack.remove(stack.size() - 1);
    }

    private void simple(Member m, int op, int a, List<Object> stack, int depth) {
        switch (op) {
            case Ops.PUSH:
                Constant c = pools.get(m.owner).get(a);
                stack.add(c.sort == 3 ? new Text(c.value, c.length) : (Object) c.value);
                break;
            case Ops.NULL:
                stack.add(null);
                break;
            case Ops.SAME:
                Object r = pop(stack);
                Object q = pop(stack);
                stack.add(Objects.equals(r, q) ? 1L : 0L);
                break;
            case Ops.NEW:
                initialise(a, depth);
                if (objects == 40) {
                    throw new Stop(7);
                }
                objects++;
                stack.add(new Thing(a));
                break;
            case Ops.OUT:
                log(1, (Long) pop(stack));
                break;
            case Ops.SAY:
                long[] row = rowOf(pop(stack));
                log(row[0], row[1]);
                break;
            case Ops.POP:
                pop(stack);
                break;
            case Ops.DUP:
                stack.add(stack.get(stack.size() - 1));
                break;
            default:
                long y = (Long) pop(stack);
                long x = (Long) pop(stack);
                stack.add(op == Ops.ADD ? x + y : op == Ops.SUB ? x - y : op == Ops.MUL ? x * y
                        : op == Ops.XOR ? x ^ y : x < y ? 1L : 0L);
        }
    }

    /** Counts the instruction itself, since a call is done before what it calls. */
    private void site(Member m, int op, Constant c, List<Object> stack, int depth) {
        boolean isField = c.sort == 5;
        int name = (int) (c.value >> 8 & 255);
        int shape = (int) (c.value >> 16);
        Member found = find((int) (c.value & 255), isField, name, shape);
        boolean ofClass = op == Ops.STATIC || op == Ops.GETS || op == Ops.PUTS;
        if (found == null) {
            throw new Stop(4);
        }
        if (((found.flags & 1) == 1) != ofClass) {
            throw new Stop(3);
        }
        if ((found.flags & 4) != 0 && found.owner != m.owner) {
            throw new Stop(5);
        }
        if (ofClass) {
            initialise(found.owner, depth);
        }
        int count = isField ? 0 : shape & 3;
        List<Object> taken = new ArrayList<>();
        for (int i = 0; i < count; i++) {
            taken.add(0, pop(stack));
        }
        Object put = op == Ops.PUTS || op == Ops.PUTF ? pop(stack) : null;
        Map<Member, Object> fields = statics;
        Member called = found;
        if (!ofClass) {
            Object receiver = pop(stack);
            if (receiver == null) {
                throw new Stop(2);
            }
            if (!(receiver instanceof Thing thing) || !lineOf(thing.type).contains(found.owner)) {
                throw new Stop(3);
            }
            taken.add(0, receiver);
            fields = thing.fields;
            called = (found.flags & 4) != 0 ? found : overriding(thing.type, name, shape);
        }
        if (!isField) {
            if (depth == 16) {
                throw new Stop(6);
            }
            done++;
            stack.add(call(called, taken, depth + 1));
            return;
        }
        done++;
        if (op == Ops.PUTS || op == Ops.PUTF) {
            fields.put(found, put);
        } else {
            stack.add(fields.getOrDefault(found, shape == 0 ? (Object) 0L : null));
        }
    }

    private Member overriding(int type, int name, int shape) {
        for (int c : lineOf(type)) {
            for (Member m : members) {
                if (m.owner == c && !m.isField && m.name == name && m.shape == shape && (m.flags & 5) == 0) {
                    return m;
                }
            }
        }
        return null;
    }
}
