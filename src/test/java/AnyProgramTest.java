import java.util.ArrayList;
import java.util.List;
import java.util.Random;

/** Promises 9, 10, 11, 12, 15 to 18 on programs that nobody thought of, against the Model. */
public final class AnyProgramTest {
    private static final int PROGRAMS = 3000;
    private static final Due due = new Due("AnyProgramTest");
    private static final int[] STATUSES = new int[9];
    private static int wrongMethods = 0;

    private final Random dice;
    private final SiteSealer x = new SiteSealer();
    private final Model model = new Model();
    private final List<Model.Member> methods = new ArrayList<>();
    private final List<Integer> numbers = new ArrayList<>();

    private AnyProgramTest(long seed) {
        dice = new Random(seed);
    }

    public static void main(String[] args) {
        for (int seed = 0; seed < PROGRAMS; seed++) {
            new AnyProgramTest(seed).compare("program " + seed);
        }
        for (int status = 0; status < STATUSES.length; status++) {
            due.is("programs come to status " + status, STATUSES[status] > 0, true);
        }
        due.is("there are wrong ones", wrongMethods > 100, true);
        due.end();
    }

    private void compare(String what) {
        build();
        boolean allRight = true;
        for (int i = 0; i < methods.size(); i++) {
            Model.Member m = methods.get(i);
            int wrong = model.wrong(m);
            due.is(what + ": wrong", x.wrong(false, m.owner(), numbers.get(i)), wrong);
            allRight = allRight && wrong == -1;
        }
        if (!allRight) {
            wrongMethods++;
            due.fails(what + ": seal", IllegalStateException.class, () -> x.seal(1));
            due.fails(what + ": run", IllegalStateException.class, () -> x.run(false, 0, 1, 0, 5));
            return;
        }
        seal(what);
        for (int i = 0; i < methods.size(); i++) {
            Model.Member m = methods.get(i);
            due.is(what + ": right in the copy", x.wrong(true, m.owner(), numbers.get(i)), -1);
            if ((m.flags() & 1) == 1 && (m.shape() & 3) == 0 && m.name() != 0) {
                run(what + " method " + i, m);
            }
        }
    }

    private void seal(String what) {
        int hidden = 0;
        int left = 0;
        long key = dice.nextLong();
        int got = x.seal(key);
        int[] sizes = new int[8];
        for (int c = 0; c < model.parents.size(); c++) {
            sizes[c] = model.pools.get(c).size();
        }
        for (int c = 0; c < model.parents.size(); c++) {
            for (int i = 0; i < methods.size(); i++) {
                Model.Member m = methods.get(i);
                for (int k = 0; m.owner() == c && k < m.code().size(); k++) {
                    int op = m.code().get(k)[0];
                    int a = m.code().get(k)[1];
                    boolean hasEntry = op == Ops.PUSH || op >= Ops.STATIC && op <= Ops.PUTF;
                    int reason = model.reason(op, hasEntry ? model.pools.get(c).get(a) : null, sizes[c]);
                    if (reason > 0) {
                        due.is(what + ": class", x.leftAt(left, 0), c);
                        due.is(what + ": method", x.leftAt(left, 1), numbers.get(i));
                        due.is(what + ": instruction", x.leftAt(left, 2), k);
                        due.is(what + ": reason", x.leftAt(left, 3), reason);
                        left++;
                    }
                    if (reason == 0) {
                        hidden++;
                        op = op == Ops.PUSH ? Ops.OPEN : Ops.MEET;
                        a = sizes[c]++;
                    }
                    due.is(what + ": op", x.code(true, c, numbers.get(i), k, 0), op);
                    due.is(what + ": a", x.code(true, c, numbers.get(i), k, 1), a);
                }
            }
            due.is(what + ": pool", x.pool(true, c), sizes[c]);
        }
        due.is(what + ": hidden", got, hidden);
        due.is(what + ": left", x.left(), left);
    }

    private void run(String what, Model.Member m) {
        int steps = dice.nextInt(3) == 0 ? dice.nextInt(60) : 3000;
        model.run(m, steps);
        STATUSES[model.status]++;
        for (int sealed = 0; sealed < 2; sealed++) {
            boolean s = sealed == 1;
            due.is(what + ": status", x.run(s, m.owner(), m.name(), m.shape(), steps), model.status);
            due.is(what + ": status told", x.told(s, -2), model.status);
            due.is(what + ": done", x.told(s, -3), model.done);
            due.is(what + ": result", x.told(s, -4), model.result);
            String got = Ops.rows(x, s);
            String want = String.join(" ", model.rows);
            due.is(what + ": rows " + got + ", due " + want, got.equals(want), true);
        }
        due.is(what + ": alike", x.alike(), true);
    }

    // Making a program: few names, so that they meet; code that mostly fits.

    private void build() {
        int classes = 1 + dice.nextInt(5);
        for (int c = 0; c < classes; c++) {
            int parent = dice.nextInt(4) == 0 ? -1 : dice.nextInt(c + 1) - 1;
            x.type(parent);
            model.type(parent);
        }
        for (int c = 0; c < classes; c++) {
            addFields(c);
            addMethods(c);
        }
        for (int c = 0; c < classes; c++) {
            addEntries(c, classes);
        }
        boolean spoils = dice.nextInt(6) == 0;
        for (int i = 0; i < methods.size(); i++) {
            writeCode(methods.get(i), numbers.get(i), spoils);
        }
    }

    private void addFields(int c) {
        for (int i = dice.nextInt(5); i > 0; i--) {
            int name = 1 + dice.nextInt(2);
            int kind = dice.nextInt(2);
            int flags = dice.nextInt(5) == 0 ? dice.nextInt(8) : dice.nextInt(2);
            boolean isNew = model.members.stream().noneMatch(m -> m.owner() == c && m.isField() && m.name() == name
                    && m.shape() == kind);
            if (isNew) {
                x.field(c, name, kind, flags);
                model.members.add(new Model.Member(c, true, name, kind, flags, 0, new ArrayList<>()));
            }
        }
    }

    private static final int[] SHAPES = {0, 0, 32, 1, 1 + 4 + 32, 2 + 8, 3 + 16};
    private static final int[] FLAGS = {0, 0, 1, 1, 1, 4, 5};

    private void addMethods(int c) {
        for (int i = 1 + dice.nextInt(5); i > 0; i--) {
            boolean isInit = dice.nextInt(6) == 0;
            int name = isInit ? 0 : 1 + dice.nextInt(2);
            int shape = isInit ? 0 : SHAPES[dice.nextInt(SHAPES.length)];
            int flags = isInit ? 1 + 4 * dice.nextInt(2) : FLAGS[dice.nextInt(FLAGS.length)];
            boolean isNew = model.members.stream().noneMatch(m -> m.owner() == c && !m.isField() && m.name() == name
                    && m.shape() == shape);
            if (isNew) {
                int locals = dice.nextInt(256);
                numbers.add(x.method(c, name, shape, flags, locals));
                methods.add(new Model.Member(c, false, name, shape, flags, locals, new ArrayList<>()));
                model.members.add(methods.get(methods.size() - 1));
            }
        }
    }

    private void addEntries(int c, int classes) {
        List<Model.Constant> pool = model.pools.get(c);
        for (int i = 4 + dice.nextInt(dice.nextInt(3) == 0 ? 28 : 14); i > 0; i--) {
            int sort = 1 + dice.nextInt(7);
            if (sort <= 2) {
                long v = dice.nextInt(3) == 0 ? dice.nextLong() : dice.nextInt(3);
                x.number(c, v, sort == 2);
                pool.add(new Model.Constant(sort, sort == 2 ? v : (int) v, 0));
            } else if (sort == 3) {
                int n = dice.nextInt(3);
                x.string(c, 0x4141L, n);
                pool.add(new Model.Constant(3, n == 0 ? 0 : n == 1 ? 0x41 : 0x4141, n));
            } else {
                addRef(c, classes, sort >= 6, pool);
            }
        }
    }

    private void addRef(int c, int classes, boolean isField, List<Model.Constant> pool) {
        int owner = dice.nextInt(classes);
        int name = dice.nextInt(12) == 0 ? dice.nextInt(4) : 1 + dice.nextInt(2);
        int shape = isField ? dice.nextInt(2) : SHAPES[dice.nextInt(SHAPES.length)];
        if (!isField && dice.nextInt(3) != 0) {
            Model.Member m = methods.get(dice.nextInt(methods.size()));
            owner = m.owner();
            name = m.name();
            shape = m.shape();
        }
        x.ref(c, isField, owner, name, shape);
        pool.add(new Model.Constant(isField ? 5 : 4, owner + 256L * name + 65536L * shape, 0));
    }

    private void put(Model.Member m, int number, int op, int a) {
        x.op(m.owner(), number, op, a);
        m.code().add(new int[] {op, a});
    }

    private void writeCode(Model.Member m, int number, boolean spoils) {
        for (int[] ins : new CodeWriter(dice, model).write(m, 3 + dice.nextInt(26), spoils)) {
            if (m.code().size() < 40) {
                put(m, number, ins[0], ins[1]);
            }
        }
    }
}
