import java.lang.reflect.InvocationTargetException;
import java.lang.reflect.Method;
import java.util.Arrays;
import java.util.HashMap;
import java.util.List;
import java.util.Map;
import java.util.Random;

/**
 * "Whatever a sentence asks holds for every run of at most 512 calls on an object, whatever their arguments are": runs
 * of all calls of the face, each answer and each exception against Whole.
 */
public final class AnyRunTest {
    private static final int OBJECTS = 1500;
    private static final int CALLS = 512;
    private static final Due due = new Due("AnyRunTest");
    private static final Map<String, Method> FACE = new HashMap<>();
    private static final Map<String, Integer> MET = new HashMap<>();
    private static final int[] EDGES = {-3, -2, -1, 4, 5, 6, 7, 8, 9, 23, 24, 25, 31, 32, 63, 64, 255, 256, 3000, 3001,
        Integer.MIN_VALUE, Integer.MAX_VALUE};
    private static final int[] SHAPES = {0, 0, 0, 32, 32, 1, 1 + 4 + 32, 2 + 8, 3 + 16};
    private static final int[] FLAGS = {0, 0, 1, 1, 1, 1, 4, 5};
    private static final String[] ADDING = {"type", "field", "method", "number", "string", "ref", "op"};
    private static final String[] ASKING = {"wrong", "seal", "left", "leftAt", "leftAt", "pool", "entry", "entry",
        "code", "code", "run", "run", "run", "told", "told", "told", "alike"};

    private final SiteSealer x = new SiteSealer();
    private final Whole whole = new Whole();
    private final Random dice;
    private final String which;
    private int calls = 0;

    private AnyRunTest(int seed) {
        dice = new Random(seed);
        which = "object " + seed + ", call ";
    }

    public static void main(String[] args) throws ReflectiveOperationException {
        for (Method call : SiteSealer.class.getMethods()) {
            if (call.getDeclaringClass() == SiteSealer.class) {
                FACE.put(call.getName(), call);
            }
        }
        for (int seed = 0; seed < OBJECTS; seed++) {
            new AnyRunTest(seed).run();
        }
        everyAnswerWasMet();
        due.end();
    }

    /** A test by dice says nothing of what the dice never showed. */
    private static void everyAnswerWasMet() {
        for (Method call : FACE.values()) {
            for (Class<?> named : call.getExceptionTypes()) {
                String met = call.getName() + " " + named.getSimpleName();
                due.is(met + " was met often", MET.getOrDefault(met, 0) >= 20, true);
            }
        }
        for (String answer : new String[] {"run 0", "run 1", "run 2", "run 3", "run 4", "run 5", "run 6", "run 7",
            "run 8", "alike true", "alike false", "leftAt 1", "leftAt 2", "leftAt 3", "leftAt 4", "wrong -1",
            "wrong 0", "wrong 3", "entry 6", "entry 7", "entry 8", "entry 9"}) {
            due.is(answer + " was met", MET.getOrDefault(answer, 0) >= 5, true);
        }
    }

    private void run() throws ReflectiveOperationException {
        addProgram();
        while (calls < CALLS) {
            int turn = dice.nextInt(100);
            if (turn < 4) {
                call(ADDING[dice.nextInt(ADDING.length)]);
            } else if (turn < 8) {
                rightAdding();
            } else if (turn < 16) {
                sealAndRunBoth();
            } else {
                call(ASKING[dice.nextInt(ASKING.length)]);
            }
        }
    }

    // A program first, whose code is right most times, with wrong calls among the others.

    private void addProgram() throws ReflectiveOperationException {
        int classes = 1 + dice.nextInt(dice.nextInt(8) == 0 ? 8 : 4);
        for (int c = 0; c < classes; c++) {
            ask("type", dice.nextInt(4) == 0 ? -1 : dice.nextInt(c + 1) - 1);
        }
        for (int c = 0; c < classes; c++) {
            addMembers(c);
        }
        for (int c = 0; c < classes; c++) {
            int many = dice.nextInt(5) == 0 ? 34 : 14;
            for (int i = 3 + dice.nextInt(many); i > 0; i--) {
                addEntry(c, classes);
            }
        }
        boolean spoils = dice.nextInt(8) == 0;
        for (int c = 0; c < classes; c++) {
            for (int m = 0; m < whole.membersOf(c, false).size(); m++) {
                addCode(c, m, spoils);
            }
        }
    }

    private void addMembers(int c) throws ReflectiveOperationException {
        int names = dice.nextInt(9) == 0 ? 31 : 2;
        for (int i = dice.nextInt(names > 2 ? 9 : 6); i > 0; i--) {
            int flags = dice.nextInt(3) == 0 ? dice.nextInt(8) : dice.nextInt(2);
            ask("field", c, 1 + dice.nextInt(names), dice.nextInt(2), flags);
        }
        if (dice.nextInt(3) == 0) {
            ask("method", c, 0, 0, 1 + 4 * dice.nextInt(2), dice.nextInt(256));
        }
        int many = dice.nextInt(10) == 0 ? 9 : 3;
        for (int i = 1 + dice.nextInt(many); i > 0; i--) {
            ask("method", c, 1 + dice.nextInt(2), SHAPES[dice.nextInt(SHAPES.length)], FLAGS[dice.nextInt(FLAGS.length)],
                    dice.nextInt(256));
        }
    }

    private void addEntry(int c, int classes) throws ReflectiveOperationException {
        int sort = 1 + dice.nextInt(7);
        if (sort <= 2) {
            ask("number", c, dice.nextInt(3) == 0 ? dice.nextLong() : (long) dice.nextInt(3), sort == 2);
        } else if (sort == 3) {
            ask("string", c, dice.nextBoolean() ? dice.nextLong() : 0x4141L, dice.nextInt(dice.nextBoolean() ? 9 : 3));
        } else if (sort <= 5) {
            ask("ref", c, true, dice.nextInt(classes), 1 + dice.nextInt(2), dice.nextInt(2));
        } else {
            boolean isInit = dice.nextInt(8) == 0;
            ask("ref", c, false, dice.nextInt(classes), isInit ? 0 : 1 + dice.nextInt(2),
                    isInit ? 0 : SHAPES[dice.nextInt(SHAPES.length)]);
        }
    }

    private void addCode(int c, int m, boolean spoils) throws ReflectiveOperationException {
        int wish = 2 + dice.nextInt(dice.nextInt(6) == 0 ? 42 : 10);
        Model.Member method = whole.membersOf(c, false).get(m);
        for (int[] ins : new CodeWriter(dice, whole.model).write(method, wish, spoils)) {
            ask("op", c, m, ins[0], ins[1]);
        }
    }

    /** Something that leaves right code right is added: what was sealed goes, and can be sealed anew. */
    private void rightAdding() throws ReflectiveOperationException {
        int classes = whole.model.parents.size();
        int c = dice.nextInt(classes);
        int turn = dice.nextInt(6);
        if (turn == 0) {
            ask("type", dice.nextInt(classes + 1) - 1);
        } else if (turn == 1) {
            ask("field", c, 1 + dice.nextInt(31), dice.nextInt(2), dice.nextInt(8));
        } else if (turn == 2 && !whole.membersOf(c, false).isEmpty()) {
            int m = dice.nextInt(whole.membersOf(c, false).size());
            for (int i = dice.nextInt(40); i >= 0; i -= 10) {
                ask("op", c, m, Ops.GOTO, 0);
            }
        } else {
            addEntry(c, classes);
        }
    }

    private void sealAndRunBoth() throws ReflectiveOperationException {
        ask("seal", dice.nextBoolean() ? dice.nextLong() : dice.nextInt(9) - 4L);
        askOfCopy();
        for (int i = dice.nextInt(3); i > 0; i--) {
            List<Model.Member> all = whole.model.members.stream().filter(m -> !m.isField()).toList();
            if (all.isEmpty()) {
                return;
            }
            Model.Member m = all.get(dice.nextInt(all.size()));
            int steps = dice.nextInt(3) == 0 ? dice.nextInt(40) : 3000;
            boolean sealed = dice.nextBoolean();
            ask("run", sealed, m.owner(), m.name(), m.shape(), steps);
            ask("run", !sealed, m.owner(), m.name(), m.shape(), steps);
            ask("alike");
            ask("told", sealed, dice.nextInt(24) - 4);
        }
    }

    private void askOfCopy() throws ReflectiveOperationException {
        int c = dice.nextInt(whole.model.parents.size());
        int before = whole.pool(false, c);
        for (int i = dice.nextInt(4); i > 0; i--) {
            int j = before + dice.nextInt(3 + 32 - before);
            ask("entry", true, c, j, 0);
            ask("entry", true, c, j, 1 + dice.nextInt(2));
        }
        ask("pool", true, c);
        ask("code", true, c, dice.nextInt(3), dice.nextInt(8), dice.nextInt(2));
    }

    // Any call with any arguments.

    private void call(String name) throws ReflectiveOperationException {
        Class<?>[] types = FACE.get(name).getParameterTypes();
        Object[] arguments = new Object[types.length];
        for (int i = 0; i < types.length; i++) {
            arguments[i] = any(types[i]);
        }
        boolean isRight = dice.nextInt(3) > 0;
        if (name.equals("leftAt") && isRight && whole.left() > 0) {
            arguments = new Object[] {dice.nextInt(whole.left()), dice.nextInt(4)};
        }
        if (name.equals("told") && isRight) {
            arguments[1] = dice.nextInt(2 * (int) whole.told((Boolean) arguments[0], -1) + 6) - 4;
        }
        ask(name, arguments);
    }

    private Object any(Class<?> type) {
        if (type == boolean.class) {
            return dice.nextBoolean();
        }
        int small = dice.nextInt(9) == 0 ? EDGES[dice.nextInt(EDGES.length)] : dice.nextInt(dice.nextInt(4) == 0 ? 12 : 3);
        if (type == long.class) {
            return dice.nextBoolean() ? dice.nextLong() : (long) small;
        }
        return small;
    }

    private void ask(String name, Object... arguments) throws ReflectiveOperationException {
        if (calls == CALLS) {
            return;
        }
        calls++;
        Method call = FACE.get(name);
        Method same = Whole.class.getMethod(name, call.getParameterTypes());
        String want = answer(same, whole, arguments);
        due.text(which + calls + ": " + name + Arrays.toString(arguments), answer(call, x, arguments), want);
        MET.merge(name + " " + shown(name, want, arguments), 1, Integer::sum);
    }

    /** Of leftAt its reasons count, of entry its sorts. */
    private static String shown(String name, String want, Object[] arguments) {
        boolean counts = !name.equals("leftAt") && !name.equals("entry") || !Character.isDigit(want.charAt(0))
                || arguments[arguments.length - 1].equals(name.equals("leftAt") ? 3 : 0);
        return counts ? want : "";
    }

    private static String answer(Method call, Object object, Object[] arguments) throws ReflectiveOperationException {
        try {
            return String.valueOf(call.invoke(object, arguments));
        } catch (InvocationTargetException e) {
            return e.getCause().getClass().getSimpleName();
        }
    }
}
