/** Promises 17 and 18: what the latest runs told, and whether they told the same. */
public final class TellingTest {
    private static final Due due = new Due("TellingTest");

    public static void main(String[] args) {
        withoutRun();
        bounds();
        results();
        latest();
        alike();
        alikeButForOne();
        due.end();
    }

    private static void withoutRun() {
        SiteSealer x = new SiteSealer();
        for (int sealed = 0; sealed < 2; sealed++) {
            boolean s = sealed == 1;
            due.is("rows", x.told(s, -1), 0);
            for (int what : new int[] {-2, -3, -4, -5, 0, 1, Integer.MIN_VALUE, Integer.MAX_VALUE}) {
                due.fails("told " + what, IndexOutOfBoundsException.class, () -> x.told(s, what));
            }
        }
        due.is("alike", x.alike(), false);
    }

    private static SiteSealer small() {
        SiteSealer x = new SiteSealer();
        x.type(-1);
        x.type(-1);
        x.number(0, -9, true);
        x.string(0, 0x6261, 2);
        x.string(0, 0x6261, 3);
        Ops.main(x, 0, 1, Ops.PUSH, 0, Ops.OUT, 0, Ops.PUSH, 0, Ops.RET, 0);
        Ops.write(x, 0, x.method(0, 1, 32, 1, 0), Ops.PUSH, 1, Ops.RET, 0);
        Ops.write(x, 0, x.method(0, 2, 32, 1, 0), Ops.NULL, 0, Ops.RET, 0);
        Ops.write(x, 0, x.method(0, 3, 32, 1, 0), Ops.NEW, 1, Ops.RET, 0);
        Ops.write(x, 0, x.method(0, 4, 32, 1, 0), Ops.PUSH, 2, Ops.RET, 0);
        Ops.main(x, 0, 5, Ops.LOAD, 0, Ops.OUT, 0, Ops.PUSH, 0, Ops.RET, 0);
        return x;
    }

    private static void bounds() {
        SiteSealer x = small();
        due.is("run", x.run(false, 0, 1, 0, 4), 0);
        long[] told = {-9, 4, 0, 2, 5, 0, 1, -9};
        for (int what = -4; what < 4; what++) {
            due.is("told " + what, x.told(false, what), told[what + 4]);
        }
        for (int what : new int[] {-5, 4, 5, 600, Integer.MIN_VALUE, Integer.MAX_VALUE}) {
            due.fails("told " + what, IndexOutOfBoundsException.class, () -> x.told(false, what));
        }
        due.fails("of the copy", IndexOutOfBoundsException.class, () -> x.told(true, -2));
        due.is("rows of the copy", x.told(true, -1), 0);
        due.is("run without steps", x.run(false, 0, 1, 0, 0), 1);
        due.is("rows", x.told(false, -1), 0);
        due.fails("row 0", IndexOutOfBoundsException.class, () -> x.told(false, 0));
        due.is("done", x.told(false, -3), 0);
        due.is("status", x.told(false, -2), 1);
        due.is("result", x.told(false, -4), 0);
    }

    private static void results() {
        SiteSealer x = small();
        x.seal(6);
        long[][] want = {{1, 2L << 56 ^ 0x6261}, {2, 4L << 56}, {3, 3L << 56 ^ 1}, {4, 2L << 56 ^ 0x6261}};
        for (long[] w : want) {
            due.is("run", x.run(false, 0, (int) w[0], 32, 9), 0);
            due.is("result", x.told(false, -4), w[1]);
            due.is("sealed run", x.run(true, 0, (int) w[0], 32, 9), 0);
            due.is("sealed result", x.told(true, -4), w[1]);
        }
        SiteSealer y = new SiteSealer();
        y.type(-1);
        y.string(0, 0xfedcba9876543210L, 8);
        Ops.write(y, 0, y.method(0, 1, 32, 1, 0), Ops.PUSH, 0, Ops.DUP, 0, Ops.SAY, 0, Ops.RET, 0);
        y.run(false, 0, 1, 32, 9);
        due.is("a string of eight bytes", y.told(false, -4), 2L << 56 ^ 0xfedcba9876543210L);
        due.is("its row", y.told(false, 3), 0xfedcba9876543210L);
    }

    private static void latest() {
        SiteSealer x = small();
        x.run(false, 0, 1, 0, 9);
        x.run(false, 0, 2, 32, 9);
        due.is("rows of the latest", x.told(false, -1), 1);
        due.fails("run of none", java.util.NoSuchElementException.class, () -> x.run(false, 0, 9, 0, 9));
        due.is("a run that throws changes nothing", x.told(false, -4), 4L << 56);
        x.seal(1);
        due.is("sealing lets the run of the classes be", x.told(false, -4), 4L << 56);
        x.run(true, 0, 1, 0, 9);
        due.is("the copy's own", x.told(true, -4), -9);
        due.is("the classes' own", x.told(false, -4), 4L << 56);
        x.seal(1);
        due.is("sealing anew takes the copy's away", x.told(true, -1), 0);
        due.fails("its status, too", IndexOutOfBoundsException.class, () -> x.told(true, -2));
    }

    private static void alike() {
        SiteSealer x = small();
        x.seal(2);
        x.run(true, 0, 1, 0, 9);
        due.is("without a run of the classes", x.alike(), false);
        x.run(false, 0, 1, 0, 9);
        due.is("the same", x.alike(), true);
        x.run(false, 0, 1, 0, 3);
        due.is("another status", x.alike(), false);
        x.run(true, 0, 1, 0, 3);
        due.is("the same status", x.alike(), true);
        x.run(false, 0, 1, 0, 2);
        due.is("another count", x.alike(), false);
        x.run(true, 0, 1, 0, 9);
        x.run(false, 0, 5, 0, 9);
        due.is("another value in a row", x.alike(), false);
        x.run(true, 0, 1, 32, 9);
        x.run(false, 0, 4, 32, 9);
        due.is("another method that tells the same", x.alike(), true);
        x.run(false, 0, 2, 32, 9);
        due.is("another result", x.alike(), false);
        x.run(true, 0, 3, 32, 9);
        due.is("another number of rows", x.alike(), false);
        x.seal(2);
        due.is("without a run of the copy", x.alike(), false);
    }

    /** Methods whose runs differ in one thing alone, against method 1, run in the copy. */
    private static void alikeButForOne() {
        SiteSealer x = new SiteSealer();
        x.type(-1);
        x.ref(0, true, 0, 1, 0);
        x.string(0, 0, 1);
        x.field(0, 1, 0, 0);
        Ops.main(x, 0, 1, Ops.NULL, 0, Ops.SAY, 0, Ops.LOAD, 0, Ops.RET, 0);
        Ops.main(x, 0, 2, Ops.NULL, 0, Ops.POP, 0, Ops.LOAD, 0, Ops.RET, 0);
        Ops.main(x, 0, 3, Ops.LOAD, 0, Ops.OUT, 0, Ops.LOAD, 0, Ops.RET, 0);
        Ops.main(x, 0, 4, Ops.NULL, 0, Ops.GETF, 0, Ops.RET, 0);
        Ops.main(x, 0, 5, Ops.PUSH, 1, Ops.GETF, 0, Ops.RET, 0);
        x.seal(3);
        x.run(true, 0, 1, 0, 9);
        due.is("of the copy alone", x.alike(), false);
        x.run(false, 0, 1, 0, 9);
        due.is("the same", x.alike(), true);
        x.run(false, 0, 2, 0, 9);
        due.is("fewer rows of the classes", x.alike(), false);
        x.run(false, 0, 3, 0, 9);
        due.is("another kind in a row", x.alike(), false);
        x.run(true, 0, 2, 0, 9);
        due.is("fewer rows of the copy", x.alike(), false);
        x.run(true, 0, 4, 0, 9);
        x.run(false, 0, 5, 0, 9);
        due.is("another status alone", x.alike(), false);
        x.run(false, 0, 4, 0, 9);
        due.is("the same status", x.alike(), true);
    }
}
