import java.util.NoSuchElementException;

/** Promises 10 to 15: sealing, what is left, and how pools and code look then. */
public final class SealingTest {
    private static final Due due = new Due("SealingTest");

    public static void main(String[] args) {
        constants();
        sitesOfEachOp();
        reasons();
        reasonOrder();
        fullPool();
        orderOfHiding();
        exceptions();
        due.end();
    }

    private static void constants() {
        long[] keys = {0, 1, -1, 12345, Long.MIN_VALUE, Long.MAX_VALUE, 0x123456789abcdefL};
        long[] values = {0, 1, -1, 0x80000000L, 0x7fffffff, Long.MIN_VALUE, 0x0123456789abcdefL};
        for (long key : keys) {
            SiteSealer x = new SiteSealer();
            x.type(-1);
            x.type(-1);
            int m = x.method(1, 1, 0, 1, 0);
            for (int i = 0; i < values.length; i++) {
                int[] places = {x.number(1, values[i], false), x.number(1, values[i], true)};
                Ops.write(x, 1, m, Ops.PUSH, places[0], Ops.OUT, 0, Ops.PUSH, places[1], Ops.OUT, 0);
            }
            x.string(1, 0x6463626160L, 5);
            Ops.write(x, 1, m, Ops.PUSH, 14, Ops.SAY, 0, Ops.GOTO, 0);
            due.is("seal", x.seal(key), 15);
            due.is("pool", x.pool(true, 1), 30);
            due.is("pool of the classes", x.pool(false, 1), 15);
            for (int j = 15; j < 29; j++) {
                int bits = j % 2 == 1 ? 32 : 64;
                long v = values[(j - 15) / 2];
                due.is("sort", x.entry(true, 1, j, 0), bits == 32 ? 6 : 7);
                due.is("sealed value", x.entry(true, 1, j, 1), Formulas.closed(v, Formulas.sealOf(key, 1, j), bits).longValue());
                due.is("length", x.entry(true, 1, j, 2), 0);
            }
            due.is("sort of the string", x.entry(true, 1, 29, 0), 8);
            due.is("bytes", x.entry(true, 1, 29, 1), 0x6463626160L ^ Formulas.sealOf(key, 1, 29).longValue());
            due.is("length", x.entry(true, 1, 29, 2), 5);
            due.is("the clear one stays", x.entry(true, 1, 14, 1), 0x6463626160L);
            due.is("run", x.run(false, 1, 1, 0, 31), 1);
            due.is("sealed run", x.run(true, 1, 1, 0, 31), 1);
            due.is("what is opened is what was closed", x.alike(), true);
        }
    }

    private static void sitesOfEachOp() {
        SiteSealer x = new SiteSealer();
        x.type(-1);
        x.type(0);
        x.type(1);
        x.ref(2, false, 1, 31, 3 + 32);
        x.ref(2, false, 0, 7, 2);
        x.ref(2, true, 1, 5, 1);
        x.ref(2, true, 2, 0, 0);
        x.number(2, 3, false);
        int m = x.method(2, 1, 0, 1, 0);
        Ops.write(x, 2, m, Ops.PUSH, 4, Ops.DUP, 0, Ops.DUP, 0, Ops.STATIC, 0, Ops.SAY, -5,
                Ops.NULL, 0, Ops.PUSH, 4, Ops.DUP, 0, Ops.VIRTUAL, 1, Ops.OUT, 0,
                Ops.GETS, 2, Ops.PUTS, 2, Ops.NULL, 0, Ops.GETF, 3, Ops.OUT, 0,
                Ops.NULL, 0, Ops.NULL, 0, Ops.PUTF, 2, Ops.GOTO, 0);
        due.is("seal", x.seal(-77), 8);
        due.is("left", x.left(), 0);
        due.is("pool", x.pool(true, 2), 13);
        long[] sites = {-1, 13 + 256 + (31L << 16) + (35L << 24), -1, 14 + (7L << 16) + (2L << 24),
            15 + 256 + (5L << 16) + (1L << 24), 16 + 256 + (5L << 16) + (1L << 24), 17 + 512, 18 + 256 + (5L << 16) + (1L << 24)};
        for (int i = 0; i < sites.length; i++) {
            if (sites[i] >= 0) {
                due.is("sort", x.entry(true, 2, 5 + i, 0), 9);
                due.is("site", x.entry(true, 2, 5 + i, 1), Formulas.closed(sites[i], Formulas.sealOf(-77, 2, 5 + i), 64).longValue());
                due.is("length", x.entry(true, 2, 5 + i, 2), 0);
            }
        }
        int[] hidden = {0, 3, 6, 8, 10, 11, 13, 17};
        int next = 5;
        for (int i = 0; i < 19; i++) {
            boolean isHidden = java.util.Arrays.binarySearch(hidden, i) >= 0;
            int op = x.code(false, 2, m, i, 0);
            due.is("op", x.code(true, 2, m, i, 0), !isHidden ? op : op == Ops.PUSH ? Ops.OPEN : Ops.MEET);
            due.is("a", x.code(true, 2, m, i, 1), isHidden ? next++ : x.code(false, 2, m, i, 1));
        }
        due.is("right in the copy", x.wrong(true, 2, m), -1);
    }

    private static void left(SiteSealer x, int k, int type, int method, int instruction, int reason) {
        due.is("class of left " + k, x.leftAt(k, 0), type);
        due.is("method of left " + k, x.leftAt(k, 1), method);
        due.is("instruction of left " + k, x.leftAt(k, 2), instruction);
        due.is("reason of left " + k, x.leftAt(k, 3), reason);
    }

    private static void reasons() {
        SiteSealer x = new SiteSealer();
        x.type(-1);
        x.type(0);
        x.field(0, 1, 0, 2);
        x.field(0, 1, 1, 3);
        x.field(0, 2, 0, 2);
        x.field(1, 2, 0, 0);
        x.ref(1, false, 1, 0, 0);
        x.ref(1, false, 1, 0, 3);
        x.ref(1, false, 1, 9, 3);
        x.ref(1, true, 1, 1, 0);
        x.ref(1, true, 1, 1, 1);
        x.ref(1, true, 1, 2, 0);
        x.ref(1, true, 0, 2, 0);
        x.ref(1, true, 1, 9, 0);
        x.ref(1, true, 1, 0, 0);
        x.method(1, 1, 0, 1, 0);
        Ops.write(x, 1, 0,
                Ops.STATIC, 0, Ops.DUP, 0, Ops.DUP, 0, Ops.STATIC, 2, Ops.OUT, 0,
                Ops.NULL, 0, Ops.LOAD, 0, Ops.LOAD, 0, Ops.LOAD, 0, Ops.VIRTUAL, 1, Ops.OUT, 0,
                Ops.NULL, 0, Ops.LOAD, 0, Ops.LOAD, 0, Ops.LOAD, 0, Ops.VIRTUAL, 2, Ops.OUT, 0,
                Ops.GETS, 3, Ops.PUTS, 3, Ops.NULL, 0, Ops.LOAD, 0, Ops.PUTF, 3,
                Ops.NULL, 0, Ops.PUTS, 4, Ops.LOAD, 0, Ops.PUTS, 5, Ops.LOAD, 0, Ops.PUTS, 6,
                Ops.LOAD, 0, Ops.PUTS, 7, Ops.LOAD, 0, Ops.PUTS, 8, Ops.GOTO, 0);
        due.is("right", x.wrong(false, 1, 0), -1);
        due.is("hidden: 3, 17, 25, 29, 31", x.seal(4), 5);
        due.is("left", x.left(), 7);
        left(x, 0, 1, 0, 0, 1);
        left(x, 1, 1, 0, 9, 1);
        left(x, 2, 1, 0, 15, 2);
        left(x, 3, 1, 0, 18, 3);
        left(x, 4, 1, 0, 21, 3);
        left(x, 5, 1, 0, 23, 3);
        left(x, 6, 1, 0, 27, 3);
        due.is("left as it is: op", x.code(true, 1, 0, 15, 0), Ops.VIRTUAL);
        due.is("left as it is: a", x.code(true, 1, 0, 15, 1), 2);
        due.fails("leftAt 7, wrong what", NoSuchElementException.class, () -> x.leftAt(7, 9));
        due.fails("leftAt -1", NoSuchElementException.class, () -> x.leftAt(-1, 0));
        due.fails("leftAt what 4", IndexOutOfBoundsException.class, () -> x.leftAt(6, 4));
        due.fails("leftAt what -1", IndexOutOfBoundsException.class, () -> x.leftAt(6, -1));
    }

    private static SiteSealer fullOfRefs() {
        SiteSealer x = new SiteSealer();
        x.type(-1);
        x.field(0, 1, 0, 2);
        x.ref(0, false, 0, 0, 3);
        x.ref(0, false, 0, 5, 3);
        x.ref(0, true, 0, 1, 0);
        x.ref(0, true, 0, 2, 0);
        for (int i = 4; i < 32; i++) {
            x.number(0, i, false);
        }
        return x;
    }

    private static void reasonOrder() {
        SiteSealer x = fullOfRefs();
        x.method(0, 1, 0, 1, 0);
        Ops.write(x, 0, 0, Ops.NULL, 0, Ops.LOAD, 0, Ops.LOAD, 0, Ops.LOAD, 0, Ops.VIRTUAL, 0, Ops.OUT, 0,
                Ops.NULL, 0, Ops.LOAD, 0, Ops.LOAD, 0, Ops.LOAD, 0, Ops.VIRTUAL, 1, Ops.PUTS, 2,
                Ops.PUSH, 31, Ops.PUTS, 3, Ops.GOTO, 0);
        due.is("nothing is hidden", x.seal(0), 0);
        due.is("left", x.left(), 5);
        left(x, 0, 0, 0, 4, 1);
        left(x, 1, 0, 0, 10, 2);
        left(x, 2, 0, 0, 11, 3);
        left(x, 3, 0, 0, 12, 4);
        left(x, 4, 0, 0, 13, 4);
        due.is("right in the copy", x.wrong(true, 0, 0), -1);
    }

    private static void fullPool() {
        SiteSealer x = new SiteSealer();
        x.type(-1);
        for (int i = 0; i < 29; i++) {
            x.number(0, i, i % 2 == 0);
        }
        x.method(0, 1, 0, 1, 0);
        for (int i = 0; i < 5; i++) {
            Ops.write(x, 0, 0, Ops.PUSH, i, Ops.OUT, 0);
        }
        Ops.write(x, 0, 0, Ops.LOAD, 0, Ops.RET, 0);
        due.is("hidden", x.seal(8), 3);
        due.is("pool", x.pool(true, 0), 32);
        due.is("left", x.left(), 2);
        left(x, 0, 0, 0, 6, 4);
        left(x, 1, 0, 0, 8, 4);
        due.is("the last one hidden", x.code(true, 0, 0, 4, 0), Ops.OPEN);
        due.is("the first one left", x.code(true, 0, 0, 6, 0), Ops.PUSH);
        x.run(false, 0, 1, 0, 100);
        x.run(true, 0, 1, 0, 100);
        due.is("alike", x.alike(), true);
        due.is("rows", x.told(true, -1), 6);
    }

    private static void orderOfHiding() {
        SiteSealer x = new SiteSealer();
        x.type(-1);
        x.type(-1);
        for (int c = 1; c >= 0; c--) {
            x.number(c, 10 + c, true);
            Ops.main(x, c, 2, Ops.PUSH, 0, Ops.RET, 0);
            Ops.main(x, c, 1, Ops.PUSH, 0, Ops.RET, 0);
        }
        due.is("hidden", x.seal(3), 4);
        for (int c = 0; c < 2; c++) {
            due.is("method 0 comes first", x.code(true, c, 0, 0, 1), 1);
            due.is("method 1 comes behind", x.code(true, c, 1, 0, 1), 2);
            for (int j = 1; j < 3; j++) {
                due.is("value", x.entry(true, c, j, 1), Formulas.closed(10 + c, Formulas.sealOf(3, c, j), 64).longValue());
            }
        }
        due.is("sealed anew with another key", x.seal(4), 4);
        due.is("pool", x.pool(true, 0), 3);
        due.is("value", x.entry(true, 0, 1, 1), Formulas.closed(10, Formulas.sealOf(4, 0, 1), 64).longValue());
        due.is("run", x.run(true, 0, 1, 0, 5), 0);
        due.is("result", x.told(true, -4), 10);
    }

    private static void exceptions() {
        SiteSealer x = new SiteSealer();
        x.type(-1);
        x.number(0, 5, true);
        due.fails("pool without a copy, no class", IllegalStateException.class, () -> x.pool(true, 4));
        due.fails("entry without a copy, no class", IllegalStateException.class, () -> x.entry(true, 4, 4, 4));
        due.fails("code without a copy, no class", IllegalStateException.class, () -> x.code(true, 4, 4, 4, 4));
        due.fails("leftAt without a copy", NoSuchElementException.class, () -> x.leftAt(0, 9));
        due.is("left without a copy", x.left(), 0);
        due.is("seal", x.seal(1), 0);
        due.fails("pool of no class", NoSuchElementException.class, () -> x.pool(true, 1));
        due.fails("pool of class -1", NoSuchElementException.class, () -> x.pool(false, -1));
        due.fails("entry of no class", NoSuchElementException.class, () -> x.entry(true, 1, 0, 4));
        due.fails("no entry", NoSuchElementException.class, () -> x.entry(true, 0, 1, 4));
        due.fails("entry -1", NoSuchElementException.class, () -> x.entry(false, 0, -1, 4));
        due.fails("entry what 3", IndexOutOfBoundsException.class, () -> x.entry(true, 0, 0, 3));
        due.fails("entry what -1", IndexOutOfBoundsException.class, () -> x.entry(false, 0, 0, -1));
        Ops.main(x, 0, 1, Ops.PUSH, 0, Ops.RET, -9);
        due.fails("code of no class", NoSuchElementException.class, () -> x.code(false, 1, 0, 0, 5));
        due.fails("code of no method", NoSuchElementException.class, () -> x.code(false, 0, 1, 0, 5));
        due.fails("code of method -1", NoSuchElementException.class, () -> x.code(false, 0, -1, 0, 5));
        due.fails("no instruction", NoSuchElementException.class, () -> x.code(false, 0, 0, 2, 5));
        due.fails("instruction -1", NoSuchElementException.class, () -> x.code(false, 0, 0, -1, 5));
        due.fails("code what 2", IndexOutOfBoundsException.class, () -> x.code(false, 0, 0, 1, 2));
        due.fails("code what -1", IndexOutOfBoundsException.class, () -> x.code(false, 0, 0, 1, -1));
        due.is("a is kept", x.code(false, 0, 0, 1, 1), -9);
        x.type(-1);
        x.method(1, 1, 0, 1, 0);
        due.fails("a method without code", IllegalStateException.class, () -> x.seal(1));
        due.fails("no copy then", IllegalStateException.class, () -> x.pool(true, 0));
    }
}
