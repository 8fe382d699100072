import java.util.NoSuchElementException;

/** "where several exceptions that a call names fit, it is the one that it names first": each pair of each call. */
public final class OrderOfExceptionsTest {
    private static final Class<NoSuchElementException> NONE = NoSuchElementException.class;
    private static final Class<IllegalArgumentException> ARGUMENT = IllegalArgumentException.class;
    private static final Class<IllegalStateException> STATE = IllegalStateException.class;
    private static final Class<UnsupportedOperationException> FULL = UnsupportedOperationException.class;
    private static final Class<IndexOutOfBoundsException> BOUNDS = IndexOutOfBoundsException.class;
    private static final Due due = new Due("OrderOfExceptionsTest");

    public static void main(String[] args) {
        type();
        field();
        method();
        entries();
        op();
        wrongAndPool();
        leftAt();
        entry();
        code();
        runWithoutCopy();
        runWithWrongMethod();
        run();
        due.end();
    }

    /** Eight classes; class 0 has six fields, six methods (the first one INIT and full of code) and 32 entries. */
    private static SiteSealer full() {
        SiteSealer x = new SiteSealer();
        for (int c = 0; c < 8; c++) {
            x.type(-1);
        }
        for (int i = 0; i < 6; i++) {
            x.field(0, 1 + i, 0, 0);
            x.method(0, i, 0, 1, 0);
            x.op(0, i, Ops.GOTO, 0);
        }
        for (int i = 0; i < 39; i++) {
            x.op(0, 0, Ops.GOTO, 0);
        }
        for (int j = 0; j < 32; j++) {
            x.number(0, j, true);
        }
        return x;
    }

    private static void type() {
        SiteSealer x = full();
        due.fails("no class as super, and full", ARGUMENT, () -> x.type(8));
        due.fails("-2 as super, and full", ARGUMENT, () -> x.type(-2));
        due.fails("full alone", FULL, () -> x.type(0));
    }

    private static void field() {
        SiteSealer x = full();
        due.fails("no class, out of bounds", NONE, () -> x.field(8, 0, 2, 8));
        due.fails("no class alone", NONE, () -> x.field(8, 1, 0, 0));
        due.fails("flags out of bounds, there already, full", ARGUMENT, () -> x.field(0, 1, 0, 8));
        due.fails("name out of bounds, full", ARGUMENT, () -> x.field(0, 32, 0, 0));
        due.fails("kind out of bounds, full", ARGUMENT, () -> x.field(0, 1, 2, 0));
        due.fails("there already, full", STATE, () -> x.field(0, 1, 0, 0));
        due.fails("full alone", FULL, () -> x.field(0, 1, 1, 0));
        SiteSealer y = new SiteSealer();
        y.type(-1);
        y.field(0, 1, 0, 0);
        due.fails("flags out of bounds, there already", ARGUMENT, () -> y.field(0, 1, 0, -1));
    }

    private static void method() {
        SiteSealer x = full();
        due.fails("no class, out of bounds", NONE, () -> x.method(8, 32, 64, 2, 256));
        due.fails("no class, not an INIT", NONE, () -> x.method(-1, 0, 1, 1, 0));
        due.fails("flags out of bounds, there already, full", ARGUMENT, () -> x.method(0, 1, 0, 2, 0));
        due.fails("locals out of bounds, there already, full", ARGUMENT, () -> x.method(0, 1, 0, 1, 256));
        due.fails("not an INIT by its flags, there already, full", ARGUMENT, () -> x.method(0, 0, 0, 0, 0));
        due.fails("not an INIT by its shape, full", ARGUMENT, () -> x.method(0, 0, 32, 1, 0));
        due.fails("there already, full", STATE, () -> x.method(0, 1, 0, 0, 0));
        due.fails("INIT there already, full", STATE, () -> x.method(0, 0, 0, 5, 0));
        due.fails("full alone", FULL, () -> x.method(0, 1, 32, 1, 0));
        SiteSealer y = new SiteSealer();
        y.type(-1);
        y.method(0, 0, 0, 1, 0);
        due.fails("not an INIT by its flags, there already", ARGUMENT, () -> y.method(0, 0, 0, 4, 0));
    }

    private static void entries() {
        SiteSealer x = full();
        due.fails("number: no class", NONE, () -> x.number(8, 0, false));
        due.fails("number: full", FULL, () -> x.number(0, 0, false));
        due.fails("string: no class, out of bounds", NONE, () -> x.string(8, 0, 9));
        due.fails("string: out of bounds, full", ARGUMENT, () -> x.string(0, 0, 9));
        due.fails("string: below its bounds, full", ARGUMENT, () -> x.string(0, 0, -1));
        due.fails("string: full", FULL, () -> x.string(0, 0, 8));
        for (int f = 0; f < 2; f++) {
            boolean isField = f == 1;
            due.fails("ref: no class, out of bounds", NONE, () -> x.ref(8, isField, 0, 32, 64));
            due.fails("ref: no owner, out of bounds, full", NONE, () -> x.ref(0, isField, 8, 32, 64));
            due.fails("ref: no owner, full", NONE, () -> x.ref(0, isField, -1, 1, 0));
            due.fails("ref: name out of bounds, full", ARGUMENT, () -> x.ref(0, isField, 0, 32, 0));
            due.fails("ref: shape out of bounds, full", ARGUMENT, () -> x.ref(0, isField, 0, 0, isField ? 2 : 64));
            due.fails("ref: full", FULL, () -> x.ref(0, isField, 0, 0, 1));
        }
    }

    private static void op() {
        SiteSealer x = full();
        due.fails("no class, out of bounds", NONE, () -> x.op(8, 0, 24, 0));
        due.fails("no method, out of bounds", NONE, () -> x.op(0, 6, 24, 0));
        due.fails("out of bounds, full", ARGUMENT, () -> x.op(0, 0, 24, 0));
        due.fails("below its bounds, full", ARGUMENT, () -> x.op(0, 0, -1, 0));
        due.fails("full alone", FULL, () -> x.op(0, 0, 0, 0));
    }

    private static void wrongAndPool() {
        SiteSealer x = full();
        due.fails("wrong: no copy, no class", STATE, () -> x.wrong(true, 8, 0));
        due.fails("wrong: no copy, no method", STATE, () -> x.wrong(true, 0, 6));
        due.fails("wrong: no class", NONE, () -> x.wrong(false, 8, 0));
        due.fails("pool: no copy, no class", STATE, () -> x.pool(true, 8));
        due.fails("pool: no class", NONE, () -> x.pool(false, 8));
    }

    private static void leftAt() {
        SiteSealer x = full();
        due.fails("no copy, another what", NONE, () -> x.leftAt(0, 4));
        x.seal(1);
        due.fails("none left, another what", NONE, () -> x.leftAt(0, -1));
        SiteSealer y = new SiteSealer();
        y.type(-1);
        y.ref(0, false, 0, 0, 0);
        Ops.main(y, 0, 1, Ops.STATIC, 0, Ops.RET, 0);
        y.seal(1);
        due.fails("beyond the last, another what", NONE, () -> y.leftAt(1, 4));
        due.fails("another what alone", BOUNDS, () -> y.leftAt(0, 4));
    }

    private static void entry() {
        SiteSealer x = full();
        due.fails("no copy, no class, another what", STATE, () -> x.entry(true, 8, 32, 3));
        due.fails("no copy, no entry", STATE, () -> x.entry(true, 0, 32, 0));
        due.fails("no copy, another what", STATE, () -> x.entry(true, 0, 0, 3));
        due.fails("no class, another what", NONE, () -> x.entry(false, 8, 0, 3));
        due.fails("no entry, another what", NONE, () -> x.entry(false, 0, 32, -1));
        due.fails("another what alone", BOUNDS, () -> x.entry(false, 0, 31, 3));
    }

    private static void code() {
        SiteSealer x = full();
        due.fails("no copy, no class, another what", STATE, () -> x.code(true, 8, 6, 40, 2));
        due.fails("no copy, no instruction", STATE, () -> x.code(true, 0, 0, 40, 0));
        due.fails("no copy, another what", STATE, () -> x.code(true, 0, 0, 0, 2));
        due.fails("no class, another what", NONE, () -> x.code(false, 8, 0, 0, 2));
        due.fails("no method, another what", NONE, () -> x.code(false, 0, 6, 0, 2));
        due.fails("no instruction, another what", NONE, () -> x.code(false, 0, 0, 40, -1));
        due.fails("another what alone", BOUNDS, () -> x.code(false, 0, 0, 39, 2));
    }

    private static void runWithoutCopy() {
        SiteSealer x = full();
        due.fails("no copy, no class, steps", STATE, () -> x.run(true, 8, 1, 0, -1));
        due.fails("no copy, no method", STATE, () -> x.run(true, 0, 9, 0, 1));
        due.fails("no copy, shape", STATE, () -> x.run(true, 0, 1, 1, 1));
        due.fails("no copy, steps", STATE, () -> x.run(true, 0, 1, 0, 3001));
        due.fails("no copy alone", STATE, () -> x.run(true, 0, 1, 0, 1));
        due.is("the classes can be run", x.run(false, 0, 1, 0, 1), 1);
    }

    private static void runWithWrongMethod() {
        SiteSealer x = full();
        x.method(7, 1, 0, 1, 0);
        for (int s = 0; s < 2; s++) {
            boolean sealed = s == 1;
            due.fails("a wrong method, no class, steps", STATE, () -> x.run(sealed, 8, 1, 0, -1));
            due.fails("a wrong method, no method", STATE, () -> x.run(sealed, 0, 9, 0, 1));
            due.fails("a wrong method, shape", STATE, () -> x.run(sealed, 0, 1, 1, 1));
            due.fails("a wrong method, steps", STATE, () -> x.run(sealed, 0, 1, 0, 3001));
            due.fails("a wrong method alone", STATE, () -> x.run(sealed, 0, 1, 0, 1));
        }
    }

    private static void run() {
        SiteSealer x = full();
        x.method(1, 2, 1, 1, 0);
        Ops.write(x, 1, 0, Ops.GOTO, 0);
        x.method(1, 3, 1, 0, 0);
        Ops.write(x, 1, 1, Ops.GOTO, 0);
        x.seal(1);
        for (int s = 0; s < 2; s++) {
            boolean sealed = s == 1;
            due.fails("no class, shape", NONE, () -> x.run(sealed, 8, 1, 1, 1));
            due.fails("no class, steps", NONE, () -> x.run(sealed, -1, 1, 0, 3001));
            due.fails("no method, shape", NONE, () -> x.run(sealed, 0, 1, 1, 1));
            due.fails("no method, steps", NONE, () -> x.run(sealed, 0, 9, 0, -1));
            due.fails("INIT, steps", NONE, () -> x.run(sealed, 0, 0, 0, -1));
            due.fails("not static, shape", NONE, () -> x.run(sealed, 1, 3, 1, 1));
            due.fails("shape alone", ARGUMENT, () -> x.run(sealed, 1, 2, 1, 1));
            due.fails("steps alone", ARGUMENT, () -> x.run(sealed, 0, 1, 0, 3001));
        }
    }
}
