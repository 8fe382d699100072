import java.util.ArrayList;
import java.util.HashMap;
import java.util.List;
import java.util.Map;
import java.util.NoSuchElementException;

/**
 * The whole face once more, in its plainest form: each call as its promise says it, word by word, on lists. Runs of
 * the copy are runs of the classes, since nothing that is seen differs.
 */
public final class Whole {
    record Told(int status, int done, long result, List<String> rows) { }

    final Model model = new Model();
    private final Map<Model.Member, List<int[]>> copyOfCode = new HashMap<>();
    private final List<List<Model.Constant>> copyOfPools = new ArrayList<>();
    private final List<int[]> leftOnes = new ArrayList<>();
    private boolean hasCopy = false;
    private Told ofClasses = null;
    private Told ofCopy = null;

    private static void state(boolean isBad) {
        if (isBad) {
            throw new IllegalStateException();
        }
    }

    private static void none(boolean isBad) {
        if (isBad) {
            throw new NoSuchElementException();
        }
    }

    private static void argument(boolean isBad) {
        if (isBad) {
            throw new IllegalArgumentException();
        }
    }

    private static void bounds(boolean isBad) {
        if (isBad) {
            throw new IndexOutOfBoundsException();
        }
    }

    private static void full(boolean isBad) {
        if (isBad) {
            throw new UnsupportedOperationException();
        }
    }

    private static boolean isOut(int x, int low, int high) {
        return x < low || x > high;
    }

    private boolean isNoClass(int type) {
        return isOut(type, 0, model.parents.size() - 1);
    }

    List<Model.Member> membersOf(int type, boolean isField) {
        return model.members.stream().filter(m -> m.owner() == type && m.isField() == isField).toList();
    }

    private boolean isNoMethod(int type, int method) {
        return isNoClass(type) || isOut(method, 0, membersOf(type, false).size() - 1);
    }

    private boolean isOneWrong() {
        return model.members.stream().anyMatch(m -> !m.isField() && model.wrong(m) != -1);
    }

    private void takeCopyAway() {
        hasCopy = false;
        ofCopy = null;
        copyOfCode.clear();
        copyOfPools.clear();
        leftOnes.clear();
    }

    public int type(int parent) {
        argument(parent != -1 && isNoClass(parent));
        full(model.parents.size() == 8);
        takeCopyAway();
        model.type(parent);
        return model.parents.size() - 1;
    }

    private int addMember(int type, boolean isField, int name, int shape, int flags, int locals) {
        List<Model.Member> others = membersOf(type, isField);
        state(others.stream().anyMatch(m -> m.name() == name && m.shape() == shape));
        full(others.size() == 6);
        takeCopyAway();
        model.members.add(new Model.Member(type, isField, name, shape, flags, locals, new ArrayList<>()));
        return others.size();
    }

    public int field(int type, int name, int kind, int flags) {
        none(isNoClass(type));
        argument(isOut(name, 1, 31) || isOut(kind, 0, 1) || isOut(flags, 0, 7));
        return addMember(type, true, name, kind, flags, 0);
    }

    public int method(int type, int name, int shape, int flags, int locals) {
        none(isNoClass(type));
        argument(isOut(name, 0, 31) || isOut(shape, 0, 63) || isOut(locals, 0, 255));
        argument(!List.of(0, 1, 4, 5).contains(flags));
        argument(name == 0 && !(shape == 0 && (flags == 1 || flags == 5)));
        return addMember(type, false, name, shape, flags, locals);
    }

    private int addEntry(int type, int sort, long value, int length) {
        List<Model.Constant> pool = model.pools.get(type);
        full(pool.size() == 32);
        takeCopyAway();
        pool.add(new Model.Constant(sort, value, length));
        return pool.size() - 1;
    }

    public int number(int type, long v, boolean wide) {
        none(isNoClass(type));
        return addEntry(type, wide ? 2 : 1, wide ? v : (int) v, 0);
    }

    public int string(int type, long bytes, int n) {
        none(isNoClass(type));
        argument(isOut(n, 0, 8));
        long kept = 0;
        for (int i = 0; i < n; i++) {
            kept |= bytes & 255L << 8 * i;
        }
        return addEntry(type, 3, kept, n);
    }

    public int ref(int type, boolean isField, int owner, int name, int shape) {
        none(isNoClass(type) || isNoClass(owner));
        argument(isOut(name, 0, 31) || isOut(shape, 0, isField ? 1 : 63));
        return addEntry(type, isField ? 5 : 4, owner + 256L * name + 65536L * shape, 0);
    }

    public int op(int type, int method, int op, int a) {
        none(isNoMethod(type, method));
        argument(isOut(op, 0, 23));
        List<int[]> code = membersOf(type, false).get(method).code();
        full(code.size() == 40);
        takeCopyAway();
        code.add(new int[] {op, a});
        return code.size() - 1;
    }

    public int wrong(boolean sealed, int type, int method) {
        state(sealed && !hasCopy);
        none(isNoMethod(type, method));
        return sealed ? -1 : model.wrong(membersOf(type, false).get(method));
    }

    public int seal(long key) {
        state(isOneWrong());
        takeCopyAway();
        hasCopy = true;
        int hidden = 0;
        for (int c = 0; c < model.parents.size(); c++) {
            copyOfPools.add(new ArrayList<>(model.pools.get(c)));
            for (int m = 0; m < membersOf(c, false).size(); m++) {
                hidden += hide(key, c, m);
            }
        }
        return hidden;
    }

    private int hide(long key, int c, int m) {
        Model.Member method = membersOf(c, false).get(m);
        List<Model.Constant> pool = copyOfPools.get(c);
        List<int[]> code = new ArrayList<>();
        int hidden = 0;
        for (int i = 0; i < method.code().size(); i++) {
            int op = method.code().get(i)[0];
            int a = method.code().get(i)[1];
            boolean hasEntry = op == Ops.PUSH || op >= Ops.STATIC && op <= Ops.PUTF;
            Model.Constant named = hasEntry ? pool.get(a) : null;
            int reason = model.reason(op, named, pool.size());
            if (reason > 0) {
                leftOnes.add(new int[] {c, m, i, reason});
            }
            if (reason == 0) {
                hidden++;
                code.add(new int[] {op == Ops.PUSH ? Ops.OPEN : Ops.MEET, pool.size()});
                pool.add(sealedOf(op, named, Formulas.sealOf(key, c, pool.size())));
            } else {
                code.add(new int[] {op, a});
            }
        }
        copyOfCode.put(method, code);
        return hidden;
    }

    private static Model.Constant sealedOf(int op, Model.Constant c, java.math.BigInteger k) {
        if (op != Ops.PUSH) {
            return new Model.Constant(9, Formulas.closed(op + 256 * c.value(), k, 64).longValue(), 0);
        }
        return switch (c.sort()) {
            case 1 -> new Model.Constant(6, Formulas.closed(c.value(), k, 32).longValue(), 0);
            case 2 -> new Model.Constant(7, Formulas.closed(c.value(), k, 64).longValue(), 0);
            default -> new Model.Constant(8, Formulas.unsigned(c.value()).xor(k).longValue(), c.length());
        };
    }

    public int left() {
        return leftOnes.size();
    }

    public int leftAt(int k, int what) {
        none(isOut(k, 0, leftOnes.size() - 1));
        bounds(isOut(what, 0, 3));
        return leftOnes.get(k)[what];
    }

    public int pool(boolean sealed, int type) {
        state(sealed && !hasCopy);
        none(isNoClass(type));
        return (sealed ? copyOfPools : model.pools).get(type).size();
    }

    public long entry(boolean sealed, int type, int j, int what) {
        state(sealed && !hasCopy);
        none(isNoClass(type));
        List<Model.Constant> pool = (sealed ? copyOfPools : model.pools).get(type);
        none(isOut(j, 0, pool.size() - 1));
        bounds(isOut(what, 0, 2));
        Model.Constant asked = pool.get(j);
        return new long[] {asked.sort(), asked.value(), asked.length()}[what];
    }

    public int code(boolean sealed, int type, int method, int i, int what) {
        state(sealed && !hasCopy);
        none(isNoMethod(type, method));
        Model.Member asked = membersOf(type, false).get(method);
        List<int[]> code = sealed ? copyOfCode.get(asked) : asked.code();
        none(isOut(i, 0, code.size() - 1));
        bounds(isOut(what, 0, 1));
        return code.get(i)[what];
    }

    public int run(boolean sealed, int type, int name, int shape, int steps) {
        state(sealed && !hasCopy || isOneWrong());
        none(isNoClass(type));
        Model.Member first = model.find(type, false, name, shape);
        none(first == null || (first.flags() & 1) == 0);
        argument((shape & 3) != 0 || isOut(steps, 0, 3000));
        model.run(first, steps);
        Told told = new Told(model.status, model.done, model.result, new ArrayList<>(model.rows));
        if (sealed) {
            ofCopy = told;
        } else {
            ofClasses = told;
        }
        return told.status;
    }

    public long told(boolean sealed, int what) {
        Told told = sealed ? ofCopy : ofClasses;
        if (told == null) {
            bounds(what != -1);
            return 0;
        }
        bounds(isOut(what, -4, 2 * told.rows.size() - 1));
        if (what >= 0) {
            return Long.parseLong(told.rows.get(what / 2).split(":")[what % 2]);
        }
        return new long[] {told.result, told.done, told.status, told.rows.size()}[what + 4];
    }

    public boolean alike() {
        return ofClasses != null && ofClasses.equals(ofCopy);
    }
}
