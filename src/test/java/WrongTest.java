import java.util.NoSuchElementException;

/** Promise 9: the first wrong instruction of a method. */
public final class WrongTest {
    private static final Due due = new Due("WrongTest");
    // The entries of the class that every code here belongs to.
    private static final int INT = 0, LONG = 1, STRING = 2, FIELD_N = 3, FIELD_R = 4, M_N = 5, M_RNR_R = 6;

    public static void main(String[] args) {
        exceptions();
        ends();
        stackOfKinds();
        stackOfEight();
        operandsThatAreNone();
        entriesOfAnotherSort();
        locals();
        jumps();
        sites();
        results();
        due.end();
    }

    private static SiteSealer world() {
        SiteSealer x = new SiteSealer();
        x.type(-1);
        x.number(0, 1, false);
        x.number(0, 2, true);
        x.string(0, 65, 1);
        x.ref(0, true, 0, 1, 0);
        x.ref(0, true, 0, 1, 1);
        x.ref(0, false, 0, 2, 0);
        x.ref(0, false, 0, 3, 3 + 4 + 16 + 32);
        return x;
    }

    /** The code is that of a static method without arguments, whose result is a number; locals 4 to 7 are references. */
    private static void code(String what, int want, int... opsAndAs) {
        SiteSealer x = world();
        x.method(0, 9, 0, 1, 240);
        Ops.write(x, 0, 0, opsAndAs);
        due.is(what, x.wrong(false, 0, 0), want);
        if (want == -1) {
            x.seal(99);
            due.is(what + ", sealed", x.wrong(true, 0, 0), -1);
        } else {
            due.fails(what + ", seal", IllegalStateException.class, () -> x.seal(99));
            due.fails(what + ", run", IllegalStateException.class, () -> x.run(false, 7, 7, 7, -7));
        }
    }

    private static void exceptions() {
        SiteSealer x = world();
        due.fails("no copy, no class", IllegalStateException.class, () -> x.wrong(true, 9, 9));
        due.fails("no class", NoSuchElementException.class, () -> x.wrong(false, 1, 0));
        due.fails("class -1", NoSuchElementException.class, () -> x.wrong(false, -1, 0));
        due.fails("no method", NoSuchElementException.class, () -> x.wrong(false, 0, 0));
        due.fails("method -1", NoSuchElementException.class, () -> x.wrong(false, 0, -1));
        x.seal(1);
        due.fails("no method in the copy", NoSuchElementException.class, () -> x.wrong(true, 0, 0));
        due.fails("no class in the copy", NoSuchElementException.class, () -> x.wrong(true, 1, 0));
    }

    private static void ends() {
        code("no code", 0);
        code("PUSH at the end", 1, Ops.PUSH, INT);
        code("ZERO at the end", 2, Ops.PUSH, INT, Ops.ZERO, 0);
        code("POP at the end", 2, Ops.PUSH, INT, Ops.POP, 0);
        code("GOTO at the end", -1, Ops.GOTO, 0);
        code("RET at the end", -1, Ops.PUSH, INT, Ops.RET, 0);
        code("dead code behind RET", 2, Ops.PUSH, INT, Ops.RET, 0, Ops.ADD, 0);
        code("dead code behind GOTO", 1, Ops.GOTO, 0, Ops.OUT, 0);
        code("dead code that is right", -1, Ops.GOTO, 0, Ops.PUSH, LONG, Ops.RET, 0);
        code("dead code without an end", 3, Ops.GOTO, 0, Ops.NULL, 0, Ops.SAY, 0);
    }

    private static void stackOfKinds() {
        for (int op = Ops.ADD; op <= Ops.LESS; op++) {
            code("op " + op, -1, Ops.PUSH, INT, Ops.PUSH, LONG, op, 0, Ops.RET, 0);
            code("op of one", 1, Ops.PUSH, INT, op, 0, Ops.RET, 0);
            code("op of a reference on top", 2, Ops.PUSH, INT, Ops.NULL, 0, op, 0, Ops.RET, 0);
            code("op of a reference below", 2, Ops.PUSH, STRING, Ops.PUSH, INT, op, 0, Ops.RET, 0);
        }
        code("SAME", -1, Ops.PUSH, STRING, Ops.NULL, 0, Ops.SAME, 0, Ops.RET, 0);
        code("SAME of a number", 2, Ops.PUSH, STRING, Ops.PUSH, INT, Ops.SAME, 0, Ops.RET, 0);
        code("SAME gives a number", 3, Ops.NULL, 0, Ops.NULL, 0, Ops.SAME, 0, Ops.SAY, 0);
        code("OUT of nothing", 0, Ops.OUT, 0);
        code("OUT of a reference", 1, Ops.NULL, 0, Ops.OUT, 0);
        code("SAY of nothing", 0, Ops.SAY, 0);
        code("SAY of a number", 1, Ops.PUSH, INT, Ops.SAY, 0);
        code("ZERO of a reference", 1, Ops.NULL, 0, Ops.ZERO, 0);
        code("ZERO of nothing", 0, Ops.ZERO, 0);
        code("POP of nothing", 0, Ops.POP, 0);
        code("DUP of nothing", 0, Ops.DUP, 0);
        code("DUP of a reference", -1, Ops.NULL, 0, Ops.DUP, 0, Ops.SAME, 0, Ops.RET, 0);
        code("POP of a reference", -1, Ops.PUSH, INT, Ops.PUSH, STRING, Ops.POP, 0, Ops.RET, 0);
        code("NEW gives a reference", 1, Ops.NEW, 0, Ops.OUT, 0);
    }

    private static void stackOfEight() {
        int[] eight = new int[2 * 8];
        code("eight", 8, join(eight));
        code("eight, and a ninth pushed", 8, join(eight, Ops.PUSH, INT));
        code("eight, and a ninth null", 8, join(eight, Ops.NULL, 0));
        code("eight, and a ninth by DUP", 8, join(eight, Ops.DUP, 0));
        code("eight, and a ninth object", 8, join(eight, Ops.NEW, 0));
        code("eight, and a ninth local", 8, join(eight, Ops.LOAD, 0));
        code("eight, and a ninth static field", 8, join(eight, Ops.GETS, FIELD_N));
        code("eight, and a ninth result", 8, join(eight, Ops.STATIC, M_N));
        code("eight, and one less", 9, join(eight, Ops.ADD, 0));
        code("eight, added", -1, join(eight, Ops.ADD, 0, Ops.ADD, 0, Ops.ADD, 0, Ops.ADD, 0, Ops.ADD, 0, Ops.ADD, 0,
                Ops.ADD, 0, Ops.RET, 0));
    }

    private static int[] join(int[] first, int... second) {
        int[] all = java.util.Arrays.copyOf(first, first.length + second.length);
        System.arraycopy(second, 0, all, first.length, second.length);
        return all;
    }

    private static void operandsThatAreNone() {
        for (int a : new int[] {-1, 7, Integer.MIN_VALUE, Integer.MAX_VALUE}) {
            code("PUSH of no entry", 0, Ops.PUSH, a, Ops.RET, 0);
            code("STATIC of no entry", 0, Ops.STATIC, a, Ops.RET, 0);
            code("GETS of no entry", 0, Ops.GETS, a, Ops.RET, 0);
            code("NEW of no class", 0, Ops.NEW, a, Ops.POP, 0);
            code("GOTO nowhere", 0, Ops.GOTO, a);
            code("ZERO nowhere", 1, Ops.PUSH, INT, Ops.ZERO, a, Ops.GOTO, 0);
        }
        code("GOTO behind the last", 0, Ops.GOTO, 1);
        code("ZERO behind the last", 1, Ops.PUSH, INT, Ops.ZERO, 3, Ops.GOTO, 0);
        code("NEW of class 1", 0, Ops.NEW, 1, Ops.POP, 0);
    }

    private static void entriesOfAnotherSort() {
        for (int entry = INT; entry <= M_RNR_R; entry++) {
            boolean isConstant = entry <= STRING;
            code("PUSH", isConstant ? -1 : 0, Ops.PUSH, entry, Ops.POP, 0, Ops.GOTO, 0);
            code("GETS", entry == FIELD_N || entry == FIELD_R ? -1 : 0, Ops.GETS, entry, Ops.POP, 0, Ops.GOTO, 0);
            code("GETF", entry == FIELD_N || entry == FIELD_R ? -1 : 1,
                    Ops.NULL, 0, Ops.GETF, entry, Ops.POP, 0, Ops.GOTO, 0);
            code("PUTS", entry == FIELD_N ? -1 : 1, Ops.PUSH, INT, Ops.PUTS, entry, Ops.GOTO, 0);
            code("PUTF", entry == FIELD_R ? -1 : 2, Ops.NULL, 0, Ops.PUSH, STRING, Ops.PUTF, entry, Ops.GOTO, 0);
            code("STATIC", entry == M_N ? -1 : 0, Ops.STATIC, entry, Ops.POP, 0, Ops.GOTO, 0);
            code("VIRTUAL", entry == M_N ? -1 : 1, Ops.NULL, 0, Ops.VIRTUAL, entry, Ops.POP, 0, Ops.GOTO, 0);
        }
    }

    private static void locals() {
        for (int a = 0; a < 8; a++) {
            boolean isRef = a >= 4;
            code("LOAD", isRef ? 1 : -1, Ops.LOAD, a, Ops.OUT, 0, Ops.GOTO, 0);
            code("STORE a number", isRef ? 1 : -1, Ops.PUSH, INT, Ops.STORE, a, Ops.GOTO, 0);
            code("STORE a reference", isRef ? -1 : 1, Ops.NULL, 0, Ops.STORE, a, Ops.GOTO, 0);
        }
        for (int a : new int[] {-1, 8, Integer.MAX_VALUE, Integer.MIN_VALUE}) {
            code("LOAD of none", 0, Ops.LOAD, a, Ops.POP, 0);
            code("STORE into none", 1, Ops.PUSH, INT, Ops.STORE, a);
        }
        // Receiver and three arguments (n r n): the bits of the locals count behind them alone.
        kinds("virtual", 3 + 8, 0, 0b10001, "rnrnrnnn");
        kinds("private", 3 + 8, 4, 0b1111, "rnrnnnnn");
        kinds("static", 3 + 8, 1, 0b11111000, "nrnrrrrr");
        kinds("one argument, bits of others", 1 + 4 + 8 + 16, 1, 0, "rnnnnnnn");
        kinds("bits of no argument", 28, 1, 0, "nnnnnnnn");
    }

    private static void kinds(String what, int shape, int flags, int locals, String want) {
        for (int a = 0; a < 8; a++) {
            SiteSealer x = world();
            x.method(0, 9, shape, flags, locals);
            boolean isRef = want.charAt(a) == 'r';
            Ops.write(x, 0, 0, Ops.LOAD, a, isRef ? Ops.SAY : Ops.OUT, 0, Ops.GOTO, 0);
            due.is(what + ", local " + a, x.wrong(false, 0, 0), -1);
            SiteSealer y = world();
            y.method(0, 9, shape, flags, locals);
            Ops.write(y, 0, 0, Ops.LOAD, a, isRef ? Ops.OUT : Ops.SAY, 0, Ops.GOTO, 0);
            due.is(what + ", local " + a + " as the other kind", y.wrong(false, 0, 0), 1);
        }
    }

    private static void jumps() {
        code("GOTO with something on the stack", 1, Ops.PUSH, INT, Ops.GOTO, 0);
        code("ZERO with something left", 2, Ops.PUSH, INT, Ops.PUSH, INT, Ops.ZERO, 0, Ops.POP, 0, Ops.GOTO, 0);
        code("RET with something left", 2, Ops.PUSH, INT, Ops.PUSH, INT, Ops.RET, 0);
        code("ZERO on", -1, Ops.PUSH, INT, Ops.ZERO, 2, Ops.GOTO, 0);
        code("a later GOTO into a stack", 1, Ops.PUSH, INT, Ops.OUT, 0, Ops.GOTO, 1);
        code("an earlier GOTO into a stack", 2, Ops.GOTO, 2, Ops.PUSH, INT, Ops.RET, 0);
        code("an earlier ZERO into a stack", 3, Ops.PUSH, INT, Ops.ZERO, 3, Ops.PUSH, INT, Ops.RET, 0);
        code("a dead GOTO into a stack", 1, Ops.PUSH, INT, Ops.RET, 0, Ops.GOTO, 1);
        code("ZERO at itself", 1, Ops.PUSH, INT, Ops.ZERO, 1, Ops.GOTO, 0);
        code("GOTO at itself", -1, Ops.GOTO, 0);
        code("an op with such an a", -1, Ops.PUSH, INT, Ops.DUP, 1, Ops.ADD, 2, Ops.RET, 1);
        code("the first of two", 1, Ops.PUSH, INT, Ops.OUT, 0, Ops.ADD, 0, Ops.GOTO, 1);
    }

    private static void sites() {
        int[] good = {Ops.NULL, 0, Ops.NULL, 0, Ops.PUSH, INT, Ops.NULL, 0, Ops.VIRTUAL, M_RNR_R, Ops.SAY, 0, Ops.GOTO, 0};
        code("VIRTUAL with r r n r", -1, good);
        code("STATIC with r n r", -1, Ops.PUSH, STRING, Ops.PUSH, INT, Ops.NULL, 0, Ops.STATIC, M_RNR_R, Ops.SAY, 0,
                Ops.GOTO, 0);
        code("VIRTUAL without a receiver", 3, Ops.NULL, 0, Ops.PUSH, INT, Ops.NULL, 0, Ops.VIRTUAL, M_RNR_R);
        code("VIRTUAL with a number as receiver", 4, Ops.PUSH, INT, Ops.NULL, 0, Ops.PUSH, INT, Ops.NULL, 0,
                Ops.VIRTUAL, M_RNR_R);
        code("STATIC with n n r", 3, Ops.PUSH, INT, Ops.PUSH, INT, Ops.NULL, 0, Ops.STATIC, M_RNR_R);
        code("STATIC with r n n", 3, Ops.NULL, 0, Ops.PUSH, INT, Ops.PUSH, INT, Ops.STATIC, M_RNR_R);
        code("STATIC with n r", 2, Ops.PUSH, INT, Ops.NULL, 0, Ops.STATIC, M_RNR_R);
        code("STATIC gives a reference", 4, Ops.NULL, 0, Ops.PUSH, INT, Ops.NULL, 0, Ops.STATIC, M_RNR_R, Ops.OUT, 0);
        code("GETS of a reference", 1, Ops.GETS, FIELD_R, Ops.OUT, 0);
        code("PUTS of another kind", 1, Ops.NULL, 0, Ops.PUTS, FIELD_N);
        code("GETF of a number", 1, Ops.PUSH, INT, Ops.GETF, FIELD_N);
        code("PUTF the other way round", 2, Ops.PUSH, INT, Ops.NULL, 0, Ops.PUTF, FIELD_N);
        code("PUTF without a receiver", 1, Ops.PUSH, INT, Ops.PUTF, FIELD_N);
        code("PUTF", -1, Ops.NULL, 0, Ops.PUSH, INT, Ops.PUTF, FIELD_N, Ops.GOTO, 0);
    }

    private static void results() {
        code("RET of a reference", 1, Ops.NULL, 0, Ops.RET, 0);
        code("RET of nothing", 0, Ops.RET, 0);
        SiteSealer x = world();
        x.method(0, 9, 32, 1, 0);
        x.method(0, 10, 32, 1, 0);
        Ops.write(x, 0, 0, Ops.NULL, 0, Ops.RET, 0);
        Ops.write(x, 0, 1, Ops.PUSH, INT, Ops.RET, 0);
        due.is("RET of a reference, as due", x.wrong(false, 0, 0), -1);
        due.is("RET of a number", x.wrong(false, 0, 1), 1);
    }
}
