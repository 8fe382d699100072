import java.util.ArrayList;
import java.util.List;
import java.util.NoSuchElementException;

/** The sentences that say when an instruction is WRONG, each at both sides of its boundary: promise 9. */
public final class BoundsOfCodeTest {
    private static final Due due = new Due("BoundsOfCodeTest");
    // The entries of the class that the code belongs to; names of methods: kinds taken, kind of the result.
    private static final int INT = 0, LONG = 1, STRING = 2, FIELD_N = 3, FIELD_R = 4, M_TO_N = 5, M_NNN_TO_N = 6,
            M_RRR_TO_R = 7;
    private static final int ENTRIES = 8;
    private static final int CLASSES = 3;
    private static final int[] FAR = {Integer.MIN_VALUE, Integer.MAX_VALUE};

    public static void main(String[] args) {
        whatItTakes();
        whatItTakesBelowTheTop();
        atMostEight();
        eightAndAsManyAsTaken();
        entriesThatAreNone();
        entriesOfAnotherSort();
        localsThatAreNone();
        kindsOfLocals();
        classesThatAreNone();
        instructionsThatAreNone();
        behindZeroAndGoto();
        behindRet();
        goneOnAtWithSomethingOnTheStack();
        goneOnAtItself();
        jumpsThatGoNowhereReachNothing();
        behindTheLastOne();
        behindTheLastOfForty();
        behindGotoAndRetTheStackIsEmpty();
        theFirstOneIsTold();
        oneMethodAlone();
        alsoInTheCopy();
        noSuchMethod();
        due.end();
    }

    private static SiteSealer world() {
        SiteSealer x = new SiteSealer();
        for (int c = 0; c < CLASSES; c++) {
            x.type(-1);
        }
        x.number(0, 1, false);
        x.number(0, 2, true);
        x.string(0, 65, 1);
        x.ref(0, true, 0, 1, 0);
        x.ref(0, true, 0, 1, 1);
        x.ref(0, false, 0, 2, 0);
        x.ref(0, false, 0, 3, 3);
        x.ref(0, false, 0, 4, 3 + 4 + 8 + 16 + 32);
        return x;
    }

    /** A static method without arguments and with a number as its result; its locals 4 to 7 are references. */
    private static void code(String what, int want, int... opsAndAs) {
        SiteSealer x = world();
        Ops.write(x, 0, x.method(0, 9, 0, 1, 240), opsAndAs);
        due.is(what, x.wrong(false, 0, 0), want);
        if (want == -1) {
            due.is(what + ", sealed", x.seal(5) >= 0 && x.wrong(true, 0, 0) == -1, true);
        } else {
            due.fails(what + ", seal", IllegalStateException.class, () -> x.seal(5));
            due.fails(what + ", run", IllegalStateException.class, () -> x.run(false, 0, 9, 0, 5));
        }
    }

    /** Puts what the letters say, n or r, and then an instruction: told is where it stands, or what is behind. */
    private static int[] behind(String kinds, int op, int a) {
        int[] all = new int[2 * kinds.length() + 2];
        for (int i = 0; i < kinds.length(); i++) {
            all[2 * i] = kinds.charAt(i) == 'n' ? Ops.PUSH : Ops.NULL;
        }
        all[all.length - 2] = op;
        all[all.length - 1] = a;
        return all;
    }

    private static void right(String kinds, int op, int a) {
        code("op " + op + " of " + kinds, kinds.length() + 1, behind(kinds, op, a));
    }

    private static void wrong(String kinds, int op, int a) {
        code("op " + op + " of " + kinds, kinds.length(), behind(kinds, op, a));
    }

    /** "if the stack has not what it takes": as much as it takes, one less, and of another kind. */
    private static void whatItTakes() {
        Object[][] all = {{Ops.STORE, 0, "n"}, {Ops.STORE, 7, "r"}, {Ops.ADD, 0, "nn"}, {Ops.SUB, 0, "nn"},
            {Ops.MUL, 0, "nn"}, {Ops.XOR, 0, "nn"}, {Ops.LESS, 0, "nn"}, {Ops.SAME, 0, "rr"}, {Ops.STATIC, M_NNN_TO_N, "nnn"},
            {Ops.STATIC, M_RRR_TO_R, "rrr"}, {Ops.VIRTUAL, M_TO_N, "r"}, {Ops.VIRTUAL, M_NNN_TO_N, "rnnn"},
            {Ops.VIRTUAL, M_RRR_TO_R, "rrrr"}, {Ops.PUTS, FIELD_N, "n"}, {Ops.PUTS, FIELD_R, "r"}, {Ops.GETF, FIELD_N, "r"},
            {Ops.GETF, FIELD_R, "r"}, {Ops.PUTF, FIELD_N, "rn"}, {Ops.PUTF, FIELD_R, "rr"}, {Ops.OUT, 0, "n"},
            {Ops.SAY, 0, "r"}};
        for (Object[] one : all) {
            int op = (Integer) one[0];
            int a = (Integer) one[1];
            String takes = (String) one[2];
            right(takes, op, a);
            wrong(takes.substring(1), op, a);
            wrong("", op, a);
            for (int i = 0; i < takes.length(); i++) {
                char other = takes.charAt(i) == 'n' ? 'r' : 'n';
                wrong(takes.substring(0, i) + other + takes.substring(i + 1), op, a);
            }
        }
        for (String any : new String[] {"n", "r"}) {
            right(any, Ops.POP, 0);
            right(any, Ops.DUP, 0);
        }
        wrong("", Ops.POP, 0);
        wrong("", Ops.DUP, 0);
        wrong("", Ops.ZERO, 0);
        wrong("r", Ops.ZERO, 0);
        code("ZERO of n", -1, Ops.PUSH, INT, Ops.ZERO, 0, Ops.GOTO, 0);
        wrong("", Ops.RET, 0);
        wrong("r", Ops.RET, 0);
        code("RET of n", -1, Ops.PUSH, INT, Ops.RET, 0);
    }

    /** What lies below does not help, and does not hinder. */
    private static void whatItTakesBelowTheTop() {
        wrong("nnr", Ops.ADD, 0);
        wrong("rrn", Ops.SAME, 0);
        right("rrnn", Ops.ADD, 0);
        right("nnrr", Ops.SAME, 0);
        right("rnrn", Ops.PUTF, FIELD_N);
        wrong("rnnr", Ops.PUTF, FIELD_N);
        right("nrnnn", Ops.VIRTUAL, M_NNN_TO_N);
    }

    /** "or more than 8 come to be there". */
    private static void atMostEight() {
        int[][] puts = {{Ops.PUSH, INT}, {Ops.PUSH, LONG}, {Ops.PUSH, STRING}, {Ops.NULL, 0}, {Ops.LOAD, 0}, {Ops.LOAD, 7},
            {Ops.NEW, 0}, {Ops.STATIC, M_TO_N}, {Ops.GETS, FIELD_N}, {Ops.GETS, FIELD_R}, {Ops.DUP, 0}};
        for (int[] put : puts) {
            right("nnnnnnn", put[0], put[1]);
            wrong("nnnnnnnn", put[0], put[1]);
            right("rrrrrrr", put[0], put[1]);
            wrong("rrrrrrrr", put[0], put[1]);
        }
    }

    /** What is taken goes before what comes. */
    private static void eightAndAsManyAsTaken() {
        right("nnnnnnnn", Ops.ADD, 0);
        right("rrrrrrrr", Ops.SAME, 0);
        right("rrrrrrrr", Ops.GETF, FIELD_N);
        right("rrrrrrrr", Ops.VIRTUAL, M_TO_N);
        right("rrrrrrrr", Ops.VIRTUAL, M_RRR_TO_R);
        right("nnnnnnnn", Ops.STATIC, M_NNN_TO_N);
        right("nnnnnnnn", Ops.STORE, 0);
        right("nnnnnnnn", Ops.POP, 0);
    }

    /** "an entry .. a is none": before the first, the last one, behind the last. */
    private static void entriesThatAreNone() {
        for (int a : new int[] {-1, ENTRIES, 31, 32, FAR[0], FAR[1]}) {
            wrong("", Ops.PUSH, a);
            wrong("", Ops.STATIC, a);
            wrong("r", Ops.VIRTUAL, a);
            wrong("", Ops.GETS, a);
            wrong("n", Ops.PUTS, a);
            wrong("r", Ops.GETF, a);
            wrong("rn", Ops.PUTF, a);
        }
        right("", Ops.PUSH, 0);
        right("rrr", Ops.STATIC, ENTRIES - 1);
        SiteSealer x = world();
        Ops.write(x, 0, x.method(0, 9, 0, 1, 0), Ops.PUSH, ENTRIES, Ops.RET, 0);
        due.is("an entry that is none yet", x.wrong(false, 0, 0), 0);
        x.number(0, 1, true);
        due.is("and then is one", x.wrong(false, 0, 0), -1);
        SiteSealer y = world();
        Ops.write(y, 1, y.method(1, 9, 0, 1, 0), Ops.PUSH, INT, Ops.RET, 0);
        due.is("an entry of another class", y.wrong(false, 1, 0), 0);
    }

    /** "or (0, 13 .. 18, 24, 25) of another sort". */
    private static void entriesOfAnotherSort() {
        for (int entry = 0; entry < ENTRIES; entry++) {
            boolean isConstant = entry <= STRING;
            boolean isField = entry == FIELD_N || entry == FIELD_R;
            code("PUSH " + entry, isConstant ? -1 : 0, Ops.PUSH, entry, Ops.POP, 0, Ops.GOTO, 0);
            code("GETS " + entry, isField ? -1 : 0, Ops.GETS, entry, Ops.POP, 0, Ops.GOTO, 0);
            code("PUTS " + entry, entry == FIELD_N ? -1 : 1, Ops.PUSH, INT, Ops.PUTS, entry, Ops.GOTO, 0);
            code("GETF " + entry, isField ? -1 : 1, Ops.NULL, 0, Ops.GETF, entry, Ops.POP, 0, Ops.GOTO, 0);
            code("PUTF " + entry, entry == FIELD_R ? -1 : 2, Ops.NULL, 0, Ops.NULL, 0, Ops.PUTF, entry, Ops.GOTO, 0);
            code("STATIC " + entry, entry == M_TO_N ? -1 : 0, Ops.STATIC, entry, Ops.POP, 0, Ops.GOTO, 0);
            code("VIRTUAL " + entry, entry == M_TO_N ? -1 : 1, Ops.NULL, 0, Ops.VIRTUAL, entry, Ops.POP, 0, Ops.GOTO, 0);
        }
    }

    /** "LOCALS 0 .. 7"; "a .. local .. a is none". */
    private static void localsThatAreNone() {
        for (int a : new int[] {-1, 8, 9, FAR[0], FAR[1]}) {
            wrong("", Ops.LOAD, a);
            wrong("n", Ops.STORE, a);
            wrong("r", Ops.STORE, a);
        }
        right("", Ops.LOAD, 0);
        right("", Ops.LOAD, 7);
        right("n", Ops.STORE, 0);
        right("r", Ops.STORE, 7);
    }

    /** "of the others local i is a reference if bit i of the method's locals is 1": receiver and arguments aren't others. */
    private static void kindsOfLocals() {
        for (int count = 0; count < 4; count++) {
            for (int flags = 0; flags < 2; flags++) {
                // All arguments are of the other kind than all other locals.
                kinds(count, flags, 28, 0);
                kinds(count, flags, 0, 255);
            }
        }
        for (int i = 0; i < 8; i++) {
            SiteSealer x = world();
            Ops.write(x, 0, x.method(0, 9, 0, 1, 1 << i), Ops.LOAD, i, Ops.SAY, 0, Ops.LOAD, (i + 1) % 8, Ops.RET, 0);
            due.is("bit " + i + " alone", x.wrong(false, 0, 0), -1);
        }
    }

    private static void kinds(int count, int flags, int kinds, int locals) {
        int first = 1 - flags;
        for (int i = 0; i < 8; i++) {
            boolean isArgument = i >= first && i < first + count;
            boolean isRef = i < first || (isArgument ? kinds != 0 : locals != 0);
            SiteSealer x = world();
            Ops.write(x, 0, x.method(0, 9, count + kinds, flags, locals), Ops.LOAD, i, isRef ? Ops.SAY : Ops.OUT, 0, Ops.GOTO, 0);
            due.is("local " + i + " of " + count + " arguments", x.wrong(false, 0, 0), -1);
            SiteSealer y = world();
            Ops.write(y, 0, y.method(0, 9, count + kinds, flags, locals), Ops.LOAD, i, isRef ? Ops.OUT : Ops.SAY, 0, Ops.GOTO, 0);
            due.is("local " + i + " as the other kind", y.wrong(false, 0, 0), 1);
        }
    }

    /** "a .. class .. a is none". */
    private static void classesThatAreNone() {
        for (int a : new int[] {-1, CLASSES, 8, FAR[0], FAR[1]}) {
            wrong("", Ops.NEW, a);
        }
        right("", Ops.NEW, 0);
        right("", Ops.NEW, CLASSES - 1);
        SiteSealer x = world();
        Ops.write(x, 0, x.method(0, 9, 0, 1, 0), Ops.NEW, CLASSES, Ops.POP, 0, Ops.GOTO, 0);
        due.is("a class that is none yet", x.wrong(false, 0, 0), 0);
        x.type(-1);
        due.is("and then is one", x.wrong(false, 0, 0), -1);
    }

    /** "an .. instruction a is none". */
    private static void instructionsThatAreNone() {
        for (int a : new int[] {-1, 3, 4, 40, FAR[0], FAR[1]}) {
            code("GOTO " + a, 0, Ops.GOTO, a, Ops.PUSH, INT, Ops.RET, 0);
            code("ZERO " + a, 1, Ops.PUSH, INT, Ops.ZERO, a, Ops.GOTO, 0);
        }
        code("GOTO the first", -1, Ops.GOTO, 0, Ops.PUSH, INT, Ops.RET, 0);
        code("GOTO the last", -1, Ops.GOTO, 2, Ops.GOTO, 0, Ops.GOTO, 0);
        code("ZERO to the first", -1, Ops.PUSH, INT, Ops.ZERO, 0, Ops.GOTO, 0);
        code("ZERO to the last", -1, Ops.PUSH, INT, Ops.ZERO, 2, Ops.GOTO, 0);
    }

    /** "behind ZERO or GOTO .. something is on the stack". */
    private static void behindZeroAndGoto() {
        code("GOTO with none", -1, Ops.GOTO, 0);
        code("GOTO with a number", 1, Ops.PUSH, INT, Ops.GOTO, 0);
        code("GOTO with a reference", 1, Ops.NULL, 0, Ops.GOTO, 0);
        code("ZERO with its own alone", -1, Ops.PUSH, INT, Ops.ZERO, 2, Ops.GOTO, 0);
        code("ZERO with one more", 2, Ops.NULL, 0, Ops.PUSH, INT, Ops.ZERO, 3, Ops.POP, 0, Ops.GOTO, 0);
    }

    /** ".., or behind RET, something is on the stack". */
    private static void behindRet() {
        code("RET with its own alone", -1, Ops.PUSH, INT, Ops.RET, 0);
        code("RET with one more", 2, Ops.NULL, 0, Ops.PUSH, INT, Ops.RET, 0);
    }

    /** "something is on the stack before it, and a ZERO or GOTO of the code (before or behind it) goes on at it". */
    private static void goneOnAtWithSomethingOnTheStack() {
        code("by a GOTO behind it", 1, Ops.PUSH, INT, Ops.OUT, 0, Ops.GOTO, 1);
        code("by a GOTO before it", 2, Ops.GOTO, 2, Ops.PUSH, INT, Ops.RET, 0);
        code("by a ZERO behind it", 1, Ops.PUSH, INT, Ops.OUT, 0, Ops.PUSH, INT, Ops.ZERO, 1, Ops.GOTO, 0);
        code("by a ZERO before it", 3, Ops.PUSH, INT, Ops.ZERO, 3, Ops.PUSH, INT, Ops.RET, 0);
        code("by one that is never met", 1, Ops.PUSH, INT, Ops.RET, 0, Ops.GOTO, 1);
        code("by one that is wrong itself", 1, Ops.PUSH, INT, Ops.OUT, 0, Ops.PUSH, INT, Ops.GOTO, 1);
        code("by the last one", 2, Ops.PUSH, INT, Ops.PUSH, INT, Ops.ADD, 0, Ops.OUT, 0, Ops.GOTO, 2);
        code("at one with none before it", -1, Ops.PUSH, INT, Ops.OUT, 0, Ops.PUSH, INT, Ops.ZERO, 2, Ops.GOTO, 0);
        code("by no jump: the same numbers of other ops", -1, Ops.PUSH, 1, Ops.OUT, 1, Ops.GOTO, 0);
    }

    private static void goneOnAtItself() {
        code("ZERO", 1, Ops.PUSH, INT, Ops.ZERO, 1, Ops.GOTO, 0);
        code("GOTO", -1, Ops.GOTO, 0);
    }

    private static void jumpsThatGoNowhereReachNothing() {
        code("a GOTO behind the last, the first being right", 2, Ops.PUSH, INT, Ops.OUT, 0, Ops.GOTO, 3);
        code("a ZERO before the first", 3, Ops.PUSH, INT, Ops.OUT, 0, Ops.PUSH, INT, Ops.ZERO, -1, Ops.GOTO, 0);
    }

    /** "behind the last one (which is neither GOTO nor RET, or there is none): then the number of instructions". */
    private static void behindTheLastOne() {
        code("none", 0);
        code("one", 1, Ops.NULL, 0);
        code("ZERO at the end", 2, Ops.PUSH, INT, Ops.ZERO, 0);
        code("OUT at the end", 2, Ops.PUSH, INT, Ops.OUT, 0);
        code("something on the stack at the end", 1, Ops.PUSH, INT);
        code("GOTO at the end", -1, Ops.GOTO, 0);
        code("RET at the end", -1, Ops.PUSH, INT, Ops.RET, 0);
        code("RET before the end", 4, Ops.PUSH, INT, Ops.RET, 0, Ops.NULL, 0, Ops.POP, 0);
    }

    private static int[] padded(int... opsAndAs) {
        List<Integer> all = new ArrayList<>();
        while (all.size() < 80 - opsAndAs.length) {
            all.addAll(List.of(Ops.NULL, 0, Ops.POP, 0));
        }
        for (int one : opsAndAs) {
            all.add(one);
        }
        return all.stream().mapToInt(i -> i).toArray();
    }

    private static void behindTheLastOfForty() {
        code("40 without an end", 40, padded());
        code("40 with RET", -1, padded(Ops.PUSH, INT, Ops.RET, 0));
        code("40 with GOTO the last", -1, padded(Ops.GOTO, 39, Ops.GOTO, 39));
        code("40 with GOTO behind the last", 38, padded(Ops.GOTO, 40, Ops.GOTO, 39));
        code("40 with the last one wrong", 39, padded(Ops.PUSH, INT, Ops.GOTO, 0));
        code("40 with the last one gone on at", 39, padded(Ops.PUSH, INT, Ops.ZERO, 39, Ops.PUSH, INT, Ops.RET, 0));
    }

    /** "Behind GOTO and RET the next one begins with an empty stack." */
    private static void behindGotoAndRetTheStackIsEmpty() {
        code("behind RET", 2, Ops.PUSH, INT, Ops.RET, 0, Ops.OUT, 0, Ops.GOTO, 0);
        code("behind GOTO", 1, Ops.GOTO, 0, Ops.POP, 0, Ops.GOTO, 0);
        code("eight more fit behind RET", 10, Ops.PUSH, INT, Ops.RET, 0, Ops.NULL, 0, Ops.NULL, 0, Ops.NULL, 0, Ops.NULL, 0,
                Ops.NULL, 0, Ops.NULL, 0, Ops.NULL, 0, Ops.NULL, 0, Ops.NULL, 0);
    }

    /** "The first instruction of a method that is WRONG". */
    private static void theFirstOneIsTold() {
        code("two that take too much", 0, Ops.OUT, 0, Ops.OUT, 0);
        code("one, and no end", 1, Ops.NULL, 0, Ops.OUT, 0);
        code("gone on at, before one that takes too much", 1, Ops.PUSH, INT, Ops.SAY, 0, Ops.GOTO, 1);
        code("one that takes too much, before one gone on at", 1, Ops.PUSH, INT, Ops.SAY, 0, Ops.OUT, 0, Ops.GOTO, 2);
    }

    private static void oneMethodAlone() {
        SiteSealer x = world();
        Ops.main(x, 0, 1, Ops.LOAD, 0, Ops.RET, 0);
        Ops.main(x, 0, 2, Ops.LOAD, 0);
        Ops.main(x, 2, 1, Ops.OUT, 0);
        due.is("a right one beside wrong ones", x.wrong(false, 0, 0), -1);
        due.is("a wrong one", x.wrong(false, 0, 1), 1);
        due.is("one of the last class", x.wrong(false, 2, 0), 0);
        due.fails("a method is wrong: seal", IllegalStateException.class, () -> x.seal(1));
        due.fails("a method is wrong: run of another", IllegalStateException.class, () -> x.run(false, 0, 1, 0, 5));
        x.op(0, 1, Ops.RET, 0);
        due.is("a wrong one mended", x.wrong(false, 0, 1), -1);
        due.fails("the last class has one still", IllegalStateException.class, () -> x.seal(1));
    }

    /** "-1 when none is; sealed: in the copy": what OPEN and MEET take is what they hide takes. */
    private static void alsoInTheCopy() {
        SiteSealer x = world();
        x.field(0, 1, 0, 2);
        int m = x.method(0, 9, 0, 1, 0);
        Ops.write(x, 0, m, Ops.NULL, 0, Ops.PUSH, INT, Ops.PUSH, LONG, Ops.PUSH, INT, Ops.VIRTUAL, M_NNN_TO_N, Ops.PUTS, FIELD_N,
                Ops.NULL, 0, Ops.PUSH, STRING, Ops.NULL, 0, Ops.STATIC, M_RRR_TO_R, Ops.DUP, 0, Ops.GETF, FIELD_R,
                Ops.PUTF, FIELD_R, Ops.GETS, FIELD_N, Ops.RET, 0);
        due.is("right", x.wrong(false, 0, m), -1);
        due.is("hidden", x.seal(9), 8);
        due.is("left: VIRTUAL of four, PUTS of a final field", x.left(), 2);
        due.is("right in the copy", x.wrong(true, 0, m), -1);
    }

    /** "IllegalStateException when there is no copy; NoSuchElementException." */
    private static void noSuchMethod() {
        SiteSealer x = world();
        x.method(0, 9, 0, 1, 0);
        x.op(0, 0, Ops.GOTO, 0);
        due.fails("there is no copy", IllegalStateException.class, () -> x.wrong(true, 0, 0));
        x.seal(3);
        for (int s = 0; s < 2; s++) {
            boolean sealed = s == 1;
            due.is("there is one", x.wrong(sealed, 0, 0), -1);
            for (int m : new int[] {-1, 1, 6, FAR[0], FAR[1]}) {
                due.fails("method " + m, NoSuchElementException.class, () -> x.wrong(sealed, 0, m));
            }
            for (int c : new int[] {-1, CLASSES, 8, FAR[0], FAR[1]}) {
                due.fails("class " + c, NoSuchElementException.class, () -> x.wrong(sealed, c, 0));
            }
            due.fails("a class without methods", NoSuchElementException.class, () -> x.wrong(sealed, 1, 0));
        }
    }
}
