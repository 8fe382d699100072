import java.util.NoSuchElementException;

/** The sentences that name a boundary of what runs told: promises 17 and 18. */
public final class BoundsOfTellingTest {
    private static final Class<IndexOutOfBoundsException> BOUNDS = IndexOutOfBoundsException.class;
    private static final int[] FAR = {Integer.MIN_VALUE, Integer.MAX_VALUE};
    private static final Due due = new Due("BoundsOfTellingTest");

    public static void main(String[] args) {
        withoutARun();
        withoutRows();
        oneRow();
        threeHundredRows();
        resultsOfEachKind();
        noResult();
        doneOfEachStatus();
        latestOfEach();
        takenAwayByAdding();
        keptByRefusedCalls();
        alikeWithoutBoth();
        alikeInEachPart();
        due.end();
    }

    private static SiteSealer classes(int... parents) {
        SiteSealer x = new SiteSealer();
        for (int parent : parents) {
            x.type(parent);
        }
        return x;
    }

    /** "IndexOutOfBoundsException (also without a run, but for -1: 0)". */
    private static void toldNothing(String what, SiteSealer x, boolean sealed) {
        due.is(what + ": rows", x.told(sealed, -1), 0);
        for (int asked : new int[] {-2, -3, -4, -5, 0, 1, 2, 599, 600, FAR[0], FAR[1]}) {
            due.fails(what + ": told " + asked, BOUNDS, () -> x.told(sealed, asked));
        }
    }

    private static void withoutARun() {
        SiteSealer x = new SiteSealer();
        toldNothing("a new object", x, false);
        toldNothing("a new object, the copy", x, true);
        SiteSealer y = withMethods();
        y.seal(1);
        toldNothing("sealed", y, false);
        toldNothing("sealed, the copy", y, true);
        y.run(false, 0, 1, 0, 9);
        toldNothing("the classes were run, not the copy", y, true);
        SiteSealer z = withMethods();
        z.seal(1);
        z.run(true, 0, 1, 0, 9);
        toldNothing("the copy was run, not the classes", z, false);
    }

    /** Methods 1 (a number), 2 (null), 3 (an object of class 1), 4, 5 (strings); 6 comes to status 4. */
    private static SiteSealer withMethods() {
        SiteSealer x = classes(-1, -1);
        x.number(0, -9, true);
        x.string(0, -1, 8);
        x.string(0, 0, 0);
        x.ref(0, true, 0, 1, 0);
        Ops.main(x, 0, 1, Ops.PUSH, 0, Ops.OUT, 0, Ops.PUSH, 0, Ops.RET, 0);
        Ops.write(x, 0, x.method(0, 2, 32, 1, 0), Ops.NULL, 0, Ops.RET, 0);
        Ops.write(x, 0, x.method(0, 3, 32, 1, 0), Ops.NEW, 1, Ops.RET, 0);
        Ops.write(x, 0, x.method(0, 4, 32, 1, 0), Ops.PUSH, 1, Ops.RET, 0);
        Ops.write(x, 0, x.method(0, 5, 32, 1, 0), Ops.PUSH, 2, Ops.RET, 0);
        Ops.main(x, 0, 6, Ops.LOAD, 0, Ops.OUT, 0, Ops.GETS, 3, Ops.RET, 0);
        return x;
    }

    private static void outside(String what, SiteSealer x, int rows) {
        for (int asked : new int[] {-5, -6, 2 * rows, 2 * rows + 1, FAR[0], FAR[1]}) {
            due.fails(what + ": told " + asked, BOUNDS, () -> x.told(false, asked));
        }
    }

    private static void withoutRows() {
        SiteSealer x = withMethods();
        due.is("no steps", x.run(false, 0, 1, 0, 0), 1);
        due.is("rows", x.told(false, -1), 0);
        due.is("status", x.told(false, -2), 1);
        due.is("done", x.told(false, -3), 0);
        due.is("result", x.told(false, -4), 0);
        outside("no rows", x, 0);
    }

    private static void oneRow() {
        SiteSealer x = withMethods();
        due.is("run", x.run(false, 0, 2, 32, 9), 0);
        due.is("rows", x.told(false, -1), 1);
        due.is("kind of row 0", x.told(false, 0), 5);
        due.is("value of row 0", x.told(false, 1), 0);
        outside("one row", x, 1);
    }

    /** "the kind (2 k), or value (2 k + 1) of row k": the first and the last of 300. */
    private static void threeHundredRows() {
        SiteSealer x = classes(-1);
        x.number(0, 1, false);
        Ops.main(x, 0, 1, Ops.LOAD, 0, Ops.OUT, 0, Ops.LOAD, 0, Ops.PUSH, 0, Ops.ADD, 0, Ops.STORE, 0, Ops.GOTO, 0);
        due.is("without an end", x.run(false, 0, 1, 0, 3000), 8);
        due.is("rows", x.told(false, -1), 300);
        due.is("kind of the first", x.told(false, 0), 5);
        for (int k = 1; k < 300; k++) {
            due.is("kind of row " + k, x.told(false, 2 * k), 1);
            if (k > 150) {
                due.is("value of row " + k, x.told(false, 2 * k + 1), k - 1);
            }
        }
        outside("300 rows", x, 300);
        due.is("fewer rows in a later run", x.run(false, 0, 1, 0, 3), 1);
        outside("two rows", x, 2);
    }

    /** "its result (-4: a number; of a reference what SAY would log of it, the kind moved left by 56 and XOR the value". */
    private static void resultsOfEachKind() {
        SiteSealer x = withMethods();
        x.seal(4);
        long[][] all = {{1, 0, -9}, {2, 32, 4L << 56}, {3, 32, 3L << 56 ^ 1}, {4, 32, 2L << 56 ^ -1L}, {5, 32, 2L << 56}};
        for (long[] one : all) {
            for (int s = 0; s < 2; s++) {
                due.is("run", x.run(s == 1, 0, (int) one[0], (int) one[1], 9), 0);
                due.is("result of method " + one[0], x.told(s == 1, -4), one[2]);
            }
        }
        for (long v : new long[] {Long.MIN_VALUE, Long.MAX_VALUE, 0}) {
            SiteSealer y = classes(-1);
            y.number(0, v, true);
            Ops.main(y, 0, 1, Ops.PUSH, 0, Ops.RET, 0);
            due.is("run", y.run(false, 0, 1, 0, 9), 0);
            due.is("result " + v, y.told(false, -4), v);
        }
    }

    /** "0 if it did not end". */
    private static void noResult() {
        SiteSealer x = withMethods();
        x.run(false, 0, 1, 0, 4);
        due.is("ended", x.told(false, -4), -9);
        due.is("out of steps", x.run(false, 0, 1, 0, 3), 1);
        due.is("result", x.told(false, -4), 0);
        x.run(false, 0, 2, 32, 9);
        due.is("missing", x.run(false, 0, 6, 0, 9), 4);
        due.is("result", x.told(false, -4), 0);
    }

    /** "how many instructions were done (-3; one at which it came to 2 .. 8 was not)". */
    private static void doneOfEachStatus() {
        SiteSealer x = withMethods();
        x.run(false, 0, 6, 0, 9);
        due.is("missing at the third", x.told(false, -3), 2);
        x.run(false, 0, 6, 0, 2);
        due.is("out of steps before it", x.told(false, -3), 2);
        due.is("status", x.told(false, -2), 1);
        x.run(false, 0, 1, 0, 4);
        due.is("ended: RET is done", x.told(false, -3), 4);
    }

    /** "What the latest run of the classes, or of the copy, told". */
    private static void latestOfEach() {
        SiteSealer x = withMethods();
        x.seal(1);
        x.run(false, 0, 1, 0, 9);
        x.run(true, 0, 3, 32, 9);
        x.run(false, 0, 2, 32, 9);
        due.is("of the classes", x.told(false, -4), 4L << 56);
        due.is("of the copy", x.told(true, -4), 3L << 56 ^ 1);
        due.is("rows of the classes", x.told(false, -1), 1);
        due.is("rows of the copy", x.told(true, -1), 2);
    }

    private interface Adding {
        void to(SiteSealer x);
    }

    /** "Whatever is added to classes takes the sealed copy away, and what its latest run told; so does sealing anew." */
    private static void takenAwayByAdding() {
        Adding[] all = {x -> x.type(-1), x -> x.type(0), x -> x.field(1, 1, 0, 0), x -> x.method(1, 9, 0, 1, 0),
            x -> x.number(1, 1, false), x -> x.number(1, 1, true), x -> x.string(1, 1, 0), x -> x.ref(1, true, 0, 1, 0),
            x -> x.ref(1, false, 0, 1, 0), x -> x.op(0, 5, Ops.GOTO, 0)};
        for (Adding adding : all) {
            SiteSealer x = withMethods();
            x.seal(1);
            x.run(false, 0, 1, 0, 9);
            x.run(true, 0, 1, 0, 9);
            due.is("alike", x.alike(), true);
            adding.to(x);
            toldNothing("added", x, true);
            due.fails("the copy", IllegalStateException.class, () -> x.pool(true, 0));
            due.is("alike", x.alike(), false);
            due.is("what the classes told stays", x.told(false, -4), -9);
            due.is("its rows, too", x.told(false, -1), 2);
            due.text("each of them", Ops.rows(x, false), "5:0 1:-9");
        }
        SiteSealer x = withMethods();
        x.seal(1);
        x.run(false, 0, 1, 0, 9);
        x.run(true, 0, 1, 0, 9);
        x.seal(1);
        toldNothing("sealed anew", x, true);
        due.is("there is a copy", x.pool(true, 1), 0);
        due.is("what the classes told stays", x.told(false, -4), -9);
        due.is("alike", x.alike(), false);
        x.run(true, 0, 1, 0, 9);
        due.is("alike again", x.alike(), true);
    }

    /** "A call that throws changes nothing". */
    private static void keptByRefusedCalls() {
        SiteSealer x = withMethods();
        x.seal(1);
        x.run(false, 0, 1, 0, 9);
        x.run(true, 0, 1, 0, 9);
        for (int s = 0; s < 2; s++) {
            boolean sealed = s == 1;
            due.fails("run of no class", NoSuchElementException.class, () -> x.run(sealed, 2, 1, 0, 9));
            due.fails("run of no method", NoSuchElementException.class, () -> x.run(sealed, 0, 7, 0, 9));
            due.fails("run of too many steps", IllegalArgumentException.class, () -> x.run(sealed, 0, 1, 0, 3001));
            due.fails("told", BOUNDS, () -> x.told(sealed, 4));
            due.is("status", x.told(sealed, -2), 0);
            due.is("result", x.told(sealed, -4), -9);
            due.text("rows", Ops.rows(x, sealed), "5:0 1:-9");
        }
        due.fails("type", IllegalArgumentException.class, () -> x.type(2));
        due.is("alike", x.alike(), true);
        x.method(1, 9, 0, 1, 0);
        due.fails("a method is wrong now", IllegalStateException.class, () -> x.run(false, 0, 1, 0, 9));
        due.fails("nor can it be sealed", IllegalStateException.class, () -> x.seal(1));
        due.is("what the classes told", x.told(false, -4), -9);
    }

    /** "false without both". */
    private static void alikeWithoutBoth() {
        SiteSealer x = withMethods();
        due.is("neither", x.alike(), false);
        x.seal(1);
        due.is("neither, with a copy", x.alike(), false);
        x.run(false, 0, 1, 0, 0);
        due.is("the classes alone", x.alike(), false);
        x.run(true, 0, 1, 0, 0);
        due.is("both, without a row", x.alike(), true);
        SiteSealer y = withMethods();
        y.seal(1);
        y.run(true, 0, 1, 0, 0);
        due.is("the copy alone", y.alike(), false);
        y.run(false, 0, 1, 0, 0);
        due.is("both", y.alike(), true);
    }

    /** Two methods, each run in the classes or in the copy, that differ in one thing alone. */
    private static void differ(String what, boolean alike, int[] first, int[] second) {
        SiteSealer x = classes(-1, -1);
        x.field(0, 1, 0, 0);
        x.number(0, 1, false);
        x.ref(0, true, 0, 1, 0);
        x.string(0, 0, 1);
        x.string(0, 0, 2);
        Ops.main(x, 0, 1, first);
        Ops.main(x, 0, 2, second);
        x.seal(5);
        x.run(false, 0, 1, 0, 9);
        x.run(true, 0, 2, 0, 9);
        due.is(what, x.alike(), alike);
        x.run(false, 0, 2, 0, 9);
        x.run(true, 0, 1, 0, 9);
        due.is(what + ", the other way round", x.alike(), alike);
    }

    private static int[] code(int... opsAndAs) {
        return opsAndAs;
    }

    /** "Whether the latest runs of both told the same": rows, status, instructions done, result. */
    private static void alikeInEachPart() {
        int[] plain = code(Ops.NULL, 0, Ops.SAY, 0, Ops.LOAD, 0, Ops.RET, 0);
        differ("the same", true, plain, plain);
        differ("another number of rows", false, plain, code(Ops.NULL, 0, Ops.POP, 0, Ops.LOAD, 0, Ops.RET, 0));
        differ("another kind of the last row", false, plain, code(Ops.LOAD, 0, Ops.OUT, 0, Ops.LOAD, 0, Ops.RET, 0));
        differ("another value of the last row", false, code(Ops.LOAD, 0, Ops.OUT, 0, Ops.LOAD, 0, Ops.RET, 0),
                code(Ops.PUSH, 0, Ops.OUT, 0, Ops.LOAD, 0, Ops.RET, 0));
        differ("another status", false, code(Ops.NULL, 0, Ops.GETF, 1, Ops.RET, 0), code(Ops.PUSH, 2, Ops.GETF, 1, Ops.RET, 0));
        differ("another result", false, code(Ops.PUSH, 0, Ops.RET, 0), code(Ops.LOAD, 0, Ops.RET, 0));
        differ("another number done", false, code(Ops.LOAD, 0, Ops.RET, 0), code(Ops.GOTO, 1, Ops.LOAD, 0, Ops.RET, 0));
        SiteSealer x = classes(-1, -1);
        Ops.main(x, 0, 1, Ops.LOAD, 0, Ops.RET, 0);
        Ops.main(x, 1, 1, Ops.LOAD, 0, Ops.RET, 0);
        x.seal(1);
        x.run(false, 0, 1, 0, 9);
        x.run(true, 1, 1, 0, 9);
        due.is("another value of the first row", x.alike(), false);
        x.run(true, 0, 1, 0, 9);
        due.is("the same first row", x.alike(), true);
        differ("other strings that are told the same", true, code(Ops.PUSH, 2, Ops.SAY, 0, Ops.LOAD, 0, Ops.RET, 0),
                code(Ops.PUSH, 3, Ops.SAY, 0, Ops.LOAD, 0, Ops.RET, 0));
    }
}
