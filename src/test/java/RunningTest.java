import java.util.NoSuchElementException;

/** Promise 16: what the machine does, each program run as it is and sealed. */
public final class RunningTest {
    private static final Due due = new Due("RunningTest");

    public static void main(String[] args) {
        exceptions();
        whichMethodRuns();
        arithmetic();
        references();
        branches();
        callsAndLocals();
        lookingFor();
        privateMembers();
        receivers();
        virtualCalls();
        fieldsOfObjects();
        initialising();
        resultOfInitIsDropped();
        initialisingAndSteps();
        initialisingAndFailing();
        depth();
        objects();
        rows();
        eachRunBeginsAnew();
        due.end();
    }

    /** Runs method 1 of a class without arguments, as it is and sealed. */
    private static void run(String what, SiteSealer x, int type, int steps, int status, int done, String rows) {
        x.seal(what.length() * 0x9e3779b97f4a7c15L);
        for (int sealed = 0; sealed < 2; sealed++) {
            String which = what + (sealed == 0 ? "" : ", sealed");
            due.is(which + ": status", x.run(sealed == 1, type, 1, 0, steps), status);
            due.is(which + ": status told", x.told(sealed == 1, -2), status);
            due.is(which + ": done", x.told(sealed == 1, -3), done);
            String got = Ops.rows(x, sealed == 1);
            due.is(which + ": rows " + got + ", due are " + rows, got.equals(rows), true);
            if (status != 0) {
                due.is(which + ": no result", x.told(sealed == 1, -4), 0);
            }
        }
        due.is(what + ": alike", x.alike(), true);
    }

    private static SiteSealer classes(int... parents) {
        SiteSealer x = new SiteSealer();
        for (int parent : parents) {
            x.type(parent);
        }
        return x;
    }

    private static void exceptions() {
        SiteSealer x = classes(-1, 0);
        x.number(0, 1, false);
        due.fails("no copy, all else wrong", IllegalStateException.class, () -> x.run(true, 9, 9, 9, -9));
        Ops.main(x, 0, 1, Ops.PUSH, 0, Ops.RET, 0);
        due.is("ends", x.run(false, 0, 1, 0, 2), 0);
        due.fails("no class, wrong steps", NoSuchElementException.class, () -> x.run(false, 2, 1, 0, -1));
        due.fails("class -1", NoSuchElementException.class, () -> x.run(false, -1, 1, 0, 5));
        due.fails("no method, wrong steps", NoSuchElementException.class, () -> x.run(false, 0, 2, 0, -1));
        due.fails("no such shape", NoSuchElementException.class, () -> x.run(false, 0, 1, 32, 5));
        due.fails("shape 64", NoSuchElementException.class, () -> x.run(false, 0, 1, 64, 5));
        due.fails("shape -4", NoSuchElementException.class, () -> x.run(false, 0, 1, -4, 5));
        due.fails("arguments, but no such method", NoSuchElementException.class, () -> x.run(false, 0, 1, 1, 5));
        due.fails("steps -1", IllegalArgumentException.class, () -> x.run(false, 0, 1, 0, -1));
        due.fails("steps 3001", IllegalArgumentException.class, () -> x.run(false, 0, 1, 0, 3001));
        due.is("what was told stays", x.told(false, -3), 2);
        Ops.write(x, 0, x.method(0, 2, 1, 1, 0), Ops.LOAD, 0, Ops.RET, 0);
        due.fails("arguments", IllegalArgumentException.class, () -> x.run(false, 0, 2, 1, 5));
        Ops.write(x, 0, x.method(0, 3, 0, 0, 0), Ops.PUSH, 0, Ops.RET, 0);
        due.fails("not static", NoSuchElementException.class, () -> x.run(false, 0, 3, 0, 5));
        Ops.write(x, 0, x.method(0, 0, 0, 1, 0), Ops.PUSH, 0, Ops.RET, 0);
        due.fails("INIT is none", NoSuchElementException.class, () -> x.run(false, 0, 0, 0, 5));
        Ops.write(x, 1, x.method(1, 1, 0, 0, 0), Ops.LOAD, 1, Ops.RET, 0);
        due.fails("the first one is not static", NoSuchElementException.class, () -> x.run(false, 1, 1, 0, 5));
        x.method(1, 7, 0, 1, 0);
        due.fails("another method is wrong", IllegalStateException.class, () -> x.run(false, 0, 1, 0, 5));
    }

    private static void whichMethodRuns() {
        SiteSealer x = classes(-1, 0, 1, -1);
        x.number(0, 10, false);
        x.number(1, 11, false);
        Ops.write(x, 0, x.method(0, 1, 0, 5, 0), Ops.PUSH, 0, Ops.RET, 0);
        Ops.write(x, 1, x.method(1, 1, 0, 1, 0), Ops.PUSH, 0, Ops.RET, 0);
        Ops.write(x, 1, x.method(1, 1, 28, 1, 0), Ops.LOAD, 0, Ops.RET, 0);
        run("of its own, private", x, 0, 2, 0, 2, "5:0");
        due.is("result", x.told(true, -4), 10);
        run("the line's first; its class alone is initialised", x, 2, 2, 0, 2, "5:0 5:1");
        due.is("result", x.told(true, -4), 11);
        due.is("bits of no arguments", x.run(false, 2, 1, 28, 5), 0);
        due.is("result", x.told(false, -4), 0);
        due.fails("of another line", NoSuchElementException.class, () -> x.run(false, 3, 1, 0, 5));
        SiteSealer y = classes(-1, 0);
        y.number(0, 10, false);
        Ops.main(y, 0, 1, Ops.PUSH, 0, Ops.RET, 0);
        run("the class of the method is initialised, not the class asked", y, 1, 2, 0, 2, "5:0");
    }

    private static void arithmetic() {
        long[][] pairs = {{7, 3}, {3, 7}, {-1, 1}, {Long.MAX_VALUE, 1}, {Long.MIN_VALUE, -1}, {5, 5}, {1L << 40, 1L << 30}};
        for (long[] p : pairs) {
            SiteSealer x = classes(-1);
            x.number(0, p[0], true);
            x.number(0, p[1], true);
            int m = x.method(0, 1, 0, 1, 0);
            for (int op = Ops.ADD; op <= Ops.LESS; op++) {
                Ops.write(x, 0, m, Ops.PUSH, 0, Ops.PUSH, 1, op, 0, Ops.OUT, 0);
            }
            Ops.write(x, 0, m, Ops.PUSH, 0, Ops.RET, 0);
            run("arithmetic", x, 0, 22, 0, 22, "5:0 1:" + (p[0] + p[1]) + " 1:" + (p[0] - p[1]) + " 1:" + p[0] * p[1]
                    + " 1:" + (p[0] ^ p[1]) + " 1:" + (p[0] < p[1] ? 1 : 0));
            due.is("result", x.told(true, -4), p[0]);
        }
        SiteSealer x = classes(-1);
        x.number(0, 0xffffffffL, false);
        Ops.main(x, 0, 1, Ops.PUSH, 0, Ops.OUT, 0, Ops.PUSH, 0, Ops.DUP, 0, Ops.SUB, 0, Ops.RET, 0);
        run("32 bits below 0", x, 0, 6, 0, 6, "5:0 1:-1");
    }

    private static void references() {
        SiteSealer x = classes(-1, -1);
        x.string(0, 0x4241, 2);
        x.string(0, 0xff4241, 2);
        x.string(0, 0x4241, 3);
        x.string(0, 0, 0);
        x.string(0, 0, 1);
        int m = x.method(0, 1, 0, 1, 3);
        int[][] pairs = {{0, 0}, {0, 1}, {0, 2}, {3, 4}, {3, 3}};
        for (int[] p : pairs) {
            Ops.write(x, 0, m, Ops.PUSH, p[0], Ops.PUSH, p[1], Ops.SAME, 0, Ops.OUT, 0);
        }
        Ops.write(x, 0, m, Ops.PUSH, 3, Ops.NULL, 0, Ops.SAME, 0, Ops.OUT, 0, Ops.NULL, 0, Ops.NULL, 0, Ops.SAME, 0, Ops.OUT, 0,
                Ops.LOAD, 2, Ops.RET, 0);
        run("strings", x, 0, 30, 0, 30, "5:0 1:1 1:1 1:0 1:0 1:1 1:0 1:1");
        SiteSealer y = classes(-1, -1);
        y.string(0, 0x4241, 2);
        Ops.write(y, 0, y.method(0, 1, 0, 1, 3), Ops.NEW, 1, Ops.STORE, 0, Ops.NEW, 1, Ops.STORE, 1,
                Ops.LOAD, 0, Ops.LOAD, 1, Ops.SAME, 0, Ops.OUT, 0, Ops.LOAD, 0, Ops.DUP, 0, Ops.SAME, 0, Ops.OUT, 0,
                Ops.LOAD, 0, Ops.PUSH, 0, Ops.SAME, 0, Ops.OUT, 0, Ops.LOAD, 1, Ops.SAY, 0, Ops.PUSH, 0, Ops.SAY, 0,
                Ops.NULL, 0, Ops.SAY, 0, Ops.LOAD, 2, Ops.RET, 0);
        run("objects", y, 0, 30, 0, 24, "5:0 5:1 1:0 1:1 1:0 3:1 2:16961 4:0");
    }

    private static void branches() {
        SiteSealer x = classes(-1);
        x.number(0, 3, false);
        x.number(0, 1, false);
        // A loop from 3 down to 0.
        Ops.main(x, 0, 1, Ops.PUSH, 0, Ops.STORE, 5, Ops.LOAD, 5, Ops.OUT, 0, Ops.LOAD, 5, Ops.ZERO, 11,
                Ops.LOAD, 5, Ops.PUSH, 1, Ops.SUB, 0, Ops.STORE, 5, Ops.GOTO, 2, Ops.LOAD, 5, Ops.RET, 0);
        run("a loop", x, 0, 3000, 0, 2 + 3 * 9 + 4 + 2, "5:0 1:3 1:2 1:1 1:0");
        run("a loop, one step too few", x, 0, 34, 1, 34, "5:0 1:3 1:2 1:1 1:0");
        run("a loop, just enough", x, 0, 35, 0, 35, "5:0 1:3 1:2 1:1 1:0");
        run("a loop, no steps", x, 0, 0, 1, 0, "");
        run("a loop, one step", x, 0, 1, 1, 1, "5:0");
        SiteSealer y = classes(-1);
        Ops.main(y, 0, 1, Ops.GOTO, 0);
        run("without an end", y, 0, 3000, 1, 3000, "5:0");
    }

    private static void callsAndLocals() {
        SiteSealer x = classes(-1);
        x.number(0, 10, false);
        x.number(0, 3, false);
        x.string(0, 90, 1);
        x.ref(0, false, 0, 2, 3 + 8 + 32);
        x.ref(0, false, 0, 3, 2);
        Ops.main(x, 0, 1, Ops.PUSH, 0, Ops.PUSH, 2, Ops.PUSH, 1, Ops.STATIC, 3, Ops.SAY, 0,
                Ops.NEW, 0, Ops.PUSH, 0, Ops.PUSH, 1, Ops.VIRTUAL, 4, Ops.OUT, 0, Ops.LOAD, 6, Ops.RET, 0);
        Ops.write(x, 0, x.method(0, 2, 3 + 8 + 32, 1, 8), Ops.LOAD, 0, Ops.OUT, 0, Ops.LOAD, 1, Ops.SAY, 0,
                Ops.LOAD, 2, Ops.OUT, 0, Ops.LOAD, 3, Ops.SAY, 0, Ops.LOAD, 4, Ops.OUT, 0,
                Ops.LOAD, 2, Ops.STORE, 4, Ops.LOAD, 1, Ops.STORE, 3, Ops.LOAD, 3, Ops.RET, 0);
        Ops.write(x, 0, x.method(0, 3, 2, 0, 8), Ops.LOAD, 0, Ops.SAY, 0, Ops.LOAD, 3, Ops.SAY, 0, Ops.LOAD, 4, Ops.OUT, 0,
                Ops.LOAD, 1, Ops.LOAD, 2, Ops.SUB, 0, Ops.RET, 0);
        run("calls", x, 0, 100, 0, 12 + 16 + 10, "5:0 1:10 2:90 1:3 4:0 1:0 2:90 3:0 4:0 1:0 1:7");
        run("the call is done, nothing behind it", x, 0, 4, 1, 4, "5:0");
    }

    private static void lookingFor() {
        // Class 1 is below class 0; class 2 asks. Members: 1 of 0 static, 2 of 0 not, 3 of 0 static hidden by one of 1 that is not.
        int[][] asked = {
            {Ops.GETS, 1, 0, 0}, {Ops.GETS, 1, 1, 0}, {Ops.GETS, 2, 0, 3}, {Ops.GETS, 3, 0, 0}, {Ops.GETS, 3, 1, 3},
            {Ops.GETS, 9, 1, 4}, {Ops.GETS, 0, 1, 4}, {Ops.GETF, 1, 1, 3}, {Ops.GETF, 2, 1, 2}, {Ops.GETF, 3, 1, 2},
            {Ops.GETF, 3, 0, 3}, {Ops.GETF, 9, 0, 4},
            {Ops.STATIC, 1, 0, 0}, {Ops.STATIC, 1, 1, 0}, {Ops.STATIC, 2, 0, 3}, {Ops.STATIC, 3, 0, 0},
            {Ops.STATIC, 3, 1, 3}, {Ops.STATIC, 9, 1, 4}, {Ops.STATIC, 0, 0, 4}, {Ops.VIRTUAL, 1, 1, 3},
            {Ops.VIRTUAL, 2, 1, 2}, {Ops.VIRTUAL, 3, 1, 2}, {Ops.VIRTUAL, 3, 0, 3}, {Ops.VIRTUAL, 9, 0, 4},
            {Ops.VIRTUAL, 0, 0, 4}};
        for (int[] a : asked) {
            SiteSealer x = classes(-1, 0, -1);
            boolean isField = a[0] >= Ops.GETS;
            boolean isOnObject = a[0] == Ops.GETF || a[0] == Ops.VIRTUAL;
            if (isField) {
                x.field(0, 1, 0, 1);
                x.field(0, 2, 0, 0);
                x.field(0, 3, 0, 1);
                x.field(1, 3, 0, 0);
            } else {
                method(x, 0, 1, 1);
                method(x, 0, 2, 0);
                method(x, 0, 3, 1);
                method(x, 1, 3, 0);
                method(x, 0, 0, 1);
            }
            x.ref(2, isField, a[2], a[1], 0);
            int m = x.method(2, 1, 0, 1, 0);
            if (isOnObject) {
                Ops.write(x, 2, m, Ops.NULL, 0);
            }
            Ops.write(x, 2, m, a[0], 0, Ops.RET, 0);
            String what = "op " + a[0] + " of " + a[1] + " in " + a[2];
            if (a[3] == 0) {
                run(what, x, 2, 100, 0, isField ? 2 : a[1] == 1 || a[1] == 3 ? 6 : 4, "5:2 5:0");
            } else {
                run(what, x, 2, 100, a[3], isOnObject ? 1 : 0, "5:2");
            }
        }
    }

    /** A method whose code has two instructions; class 0 has an INIT of two in the runs that call one. */
    private static void method(SiteSealer x, int type, int name, int flags) {
        Ops.write(x, type, x.method(type, name, 0, flags, 0), Ops.LOAD, 7, Ops.RET, 0);
    }

    private static void privateMembers() {
        for (int asker = 0; asker < 2; asker++) {
            SiteSealer x = classes(-1, 0);
            x.field(0, 1, 0, 5);
            x.ref(asker, true, asker, 1, 0);
            Ops.main(x, asker, 1, Ops.GETS, 0, Ops.RET, 0);
            run("a private field from class " + asker, x, asker, 9, asker == 0 ? 0 : 5, asker == 0 ? 2 : 0,
                    asker == 0 ? "5:0" : "5:0 5:1");
        }
        for (int asker = 0; asker < 2; asker++) {
            SiteSealer x = classes(-1, 0);
            method(x, 0, 2, 4);
            x.ref(asker, false, asker, 2, 0);
            Ops.main(x, asker, 1, Ops.NULL, 0, Ops.VIRTUAL, 0, Ops.RET, 0);
            run("a private method of null from class " + asker, x, asker, 9, asker == 0 ? 2 : 5, 1,
                    asker == 0 ? "5:0" : "5:0 5:1");
        }
        SiteSealer x = classes(-1, -1);
        method(x, 0, 2, 4);
        x.ref(1, false, 0, 2, 0);
        Ops.main(x, 1, 1, Ops.STATIC, 0, Ops.RET, 0);
        run("unfit comes before barred, and nothing is initialised", x, 1, 9, 3, 0, "5:1");
        SiteSealer y = classes(-1, -1);
        method(y, 0, 2, 5);
        y.ref(1, false, 0, 2, 0);
        Ops.main(y, 1, 1, Ops.STATIC, 0, Ops.RET, 0);
        run("barred, and nothing is initialised", y, 1, 9, 5, 0, "5:1");
    }

    private static void receivers() {
        int[] makers = {Ops.NULL, 0, Ops.PUSH, 0, Ops.NEW, 0, Ops.NEW, 1, Ops.NEW, 2, Ops.NEW, 3};
        int[] statuses = {2, 3, 3, 0, 0, 3};
        String[] news = {"", "", " 5:0", " 5:0 5:1", " 5:0 5:1 5:2", " 5:3"};
        for (int i = 0; i < 6; i++) {
            for (int op : new int[] {Ops.VIRTUAL, Ops.GETF, Ops.PUTF}) {
                SiteSealer x = classes(-1, 0, 1, -1, -1);
                x.field(1, 1, 0, 0);
                method(x, 1, 2, 0);
                x.string(4, 77, 1);
                x.ref(4, op != Ops.VIRTUAL, 2, op == Ops.VIRTUAL ? 2 : 1, 0);
                int m = x.method(4, 1, 0, 1, 0);
                Ops.write(x, 4, m, makers[2 * i], makers[2 * i + 1]);
                if (op == Ops.PUTF) {
                    Ops.write(x, 4, m, Ops.LOAD, 0, op, 1, Ops.LOAD, 0, Ops.RET, 0);
                } else {
                    Ops.write(x, 4, m, op, 1, Ops.RET, 0);
                }
                int done = statuses[i] != 0 ? op == Ops.PUTF ? 2 : 1 : op == Ops.GETF ? 3 : 5;
                run("op " + op + " on maker " + i, x, 4, 9, statuses[i], done, "5:4" + news[i]);
            }
        }
    }

    /** A method of no arguments that tells a number. */
    private static void telling(SiteSealer x, int type, int flags, int number) {
        int place = x.number(type, number, false);
        Ops.write(x, type, x.method(type, 2, 0, flags, 0), Ops.PUSH, place, Ops.RET, 0);
    }

    private static void virtualCalls() {
        SiteSealer x = classes(-1, 0, 1, 2, 3);
        telling(x, 0, 0, 10);
        telling(x, 1, 1, 11);
        telling(x, 2, 4, 12);
        telling(x, 3, 0, 13);
        x.ref(0, false, 0, 2, 0);
        int m = x.method(0, 1, 0, 1, 0);
        for (int c = 0; c < 5; c++) {
            Ops.write(x, 0, m, Ops.NEW, c, Ops.VIRTUAL, 1, Ops.OUT, 0);
        }
        Ops.write(x, 0, m, Ops.LOAD, 0, Ops.RET, 0);
        run("static and private ones are passed over", x, 0, 100, 0, 27,
                "5:0 1:10 5:1 1:10 5:2 1:10 5:3 1:13 5:4 1:13");
        SiteSealer y = classes(-1, 0, 1, 2);
        telling(y, 0, 0, 10);
        telling(y, 2, 4, 12);
        telling(y, 3, 0, 13);
        y.ref(2, false, 2, 2, 0);
        y.ref(2, false, 1, 2, 0);
        Ops.main(y, 2, 1, Ops.NEW, 3, Ops.VIRTUAL, 1, Ops.OUT, 0, Ops.NEW, 3, Ops.VIRTUAL, 2, Ops.OUT, 0,
                Ops.LOAD, 0, Ops.RET, 0);
        run("a private one is called itself", y, 2, 100, 0, 12, "5:0 5:1 5:2 5:3 1:12 1:13");
    }

    private static void fieldsOfObjects() {
        SiteSealer x = classes(-1, 0);
        x.field(0, 1, 0, 0);
        x.field(0, 1, 1, 0);
        x.field(1, 1, 0, 2);
        x.number(1, 5, false);
        x.ref(1, true, 0, 1, 0);
        x.ref(1, true, 1, 1, 0);
        x.ref(1, true, 1, 1, 1);
        x.string(1, 88, 1);
        Ops.write(x, 1, x.method(1, 1, 0, 1, 3), Ops.NEW, 1, Ops.STORE, 0, Ops.NEW, 1, Ops.STORE, 1,
                Ops.LOAD, 0, Ops.PUSH, 0, Ops.PUTF, 1, Ops.LOAD, 0, Ops.GETF, 1, Ops.OUT, 0,
                Ops.LOAD, 0, Ops.GETF, 2, Ops.OUT, 0, Ops.LOAD, 1, Ops.GETF, 1, Ops.OUT, 0,
                Ops.LOAD, 1, Ops.GETF, 3, Ops.SAY, 0, Ops.LOAD, 1, Ops.LOAD, 0, Ops.PUTF, 3,
                Ops.LOAD, 1, Ops.GETF, 3, Ops.SAY, 0, Ops.LOAD, 0, Ops.PUSH, 0, Ops.PUTF, 2,
                Ops.LOAD, 0, Ops.GETF, 2, Ops.OUT, 0, Ops.LOAD, 2, Ops.RET, 0);
        run("fields", x, 1, 100, 0, 33, "5:0 5:1 1:5 1:0 1:0 4:0 3:1 1:5");
    }

    /** An INIT that tells a number: four instructions. */
    private static void init(SiteSealer x, int type, int flags, int number) {
        int place = x.number(type, number, false);
        Ops.write(x, type, x.method(type, 0, 0, flags, 0), Ops.PUSH, place, Ops.OUT, 0, Ops.PUSH, place, Ops.RET, 0);
    }

    private static void initialising() {
        SiteSealer x = classes(-1, 0, 1, -1);
        init(x, 0, 1, 10);
        init(x, 2, 5, 12);
        init(x, 3, 1, 13);
        Ops.main(x, 3, 1, Ops.NEW, 2, Ops.SAY, 0, Ops.NEW, 1, Ops.SAY, 0, Ops.LOAD, 0, Ops.RET, 0);
        run("the topmost first, once", x, 3, 100, 0, 18, "5:3 1:13 5:0 1:10 5:1 5:2 1:12 3:2 3:1");
        // An INIT that asks for what its own class and a lower one have.
        SiteSealer y = classes(-1, 0);
        y.field(0, 1, 0, 1);
        y.field(1, 1, 0, 1);
        y.ref(0, true, 0, 1, 0);
        y.ref(0, true, 1, 1, 0);
        y.number(0, 4, false);
        Ops.write(y, 0, y.method(0, 0, 0, 1, 0), Ops.PUSH, 2, Ops.PUTS, 0, Ops.GETS, 1, Ops.OUT, 0, Ops.GETS, 0, Ops.RET, 0);
        init(y, 1, 1, 11);
        Ops.main(y, 1, 1, Ops.LOAD, 0, Ops.RET, 0);
        run("a class that counts as initialised while its INIT runs", y, 1, 100, 0, 12, "5:0 5:1 1:11 1:0");
        // STATIC, GETS, PUTS by the class of what was found, not by the class that is named.
        for (int op : new int[] {Ops.STATIC, Ops.GETS, Ops.PUTS}) {
            SiteSealer z = classes(-1, 0, -1);
            z.field(0, 1, 0, 1);
            method(z, 0, 1, 1);
            init(z, 1, 1, 11);
            z.ref(2, op != Ops.STATIC, 1, 1, 0);
            int m = z.method(2, 1, 0, 1, 0);
            Ops.write(z, 2, m, Ops.LOAD, 0, op, 0);
            if (op != Ops.PUTS) {
                Ops.write(z, 2, m, Ops.POP, 0, Ops.POP, 0);
            }
            Ops.write(z, 2, m, Ops.LOAD, 0, Ops.RET, 0);
            run("found above, op " + op, z, 2, 100, 0, op == Ops.PUTS ? 4 : op == Ops.GETS ? 6 : 8, "5:2 5:0");
        }
    }

    /** What an INIT answers is not there when the instruction behind it takes its own. */
    private static void resultOfInitIsDropped() {
        SiteSealer x = classes(-1, -1);
        x.field(0, 1, 0, 1);
        init(x, 0, 1, 10);
        x.ref(1, true, 0, 1, 0);
        x.number(1, 6, false);
        Ops.main(x, 1, 1, Ops.PUSH, 1, Ops.PUTS, 0, Ops.GETS, 0, Ops.RET, 0);
        run("PUTS behind an INIT", x, 1, 100, 0, 8, "5:1 5:0 1:10");
        due.is("what was put", x.told(true, -4), 6);
        SiteSealer y = classes(-1, -1);
        init(y, 0, 1, 10);
        Ops.write(y, 0, y.method(0, 2, 2, 1, 0), Ops.LOAD, 0, Ops.LOAD, 1, Ops.SUB, 0, Ops.RET, 0);
        y.ref(1, false, 0, 2, 2);
        y.number(1, 6, false);
        y.number(1, 4, false);
        Ops.main(y, 1, 1, Ops.PUSH, 1, Ops.PUSH, 2, Ops.STATIC, 0, Ops.RET, 0);
        run("STATIC behind an INIT", y, 1, 100, 0, 12, "5:1 5:0 1:10");
        due.is("what was calculated", y.told(true, -4), 2);
    }

    private static void initialisingAndSteps() {
        SiteSealer x = classes(-1, 0, -1);
        init(x, 0, 1, 10);
        init(x, 1, 1, 11);
        Ops.main(x, 2, 1, Ops.LOAD, 0, Ops.POP, 0, Ops.NEW, 1, Ops.SAY, 0, Ops.LOAD, 0, Ops.RET, 0);
        String[] rows = {"", "5:2", "5:2", "5:2 5:0", "5:2 5:0 1:10", "5:2 5:0 1:10", "5:2 5:0 1:10",
            "5:2 5:0 1:10 5:1", "5:2 5:0 1:10 5:1 1:11", "5:2 5:0 1:10 5:1 1:11", "5:2 5:0 1:10 5:1 1:11",
            "5:2 5:0 1:10 5:1 1:11", "5:2 5:0 1:10 5:1 1:11 3:1", "5:2 5:0 1:10 5:1 1:11 3:1"};
        for (int steps = 0; steps < 14; steps++) {
            run("steps " + steps, x, 2, steps, 1, steps, rows[steps]);
        }
        run("steps 14", x, 2, 14, 0, 14, rows[13]);
        SiteSealer y = classes(-1, 0);
        init(y, 0, 1, 10);
        Ops.main(y, 1, 1, Ops.LOAD, 0, Ops.RET, 0);
        String[] first = {"", "5:0", "5:0 1:10", "5:0 1:10", "5:0 1:10", "5:0 1:10 5:1"};
        for (int steps = 0; steps < 6; steps++) {
            run("of the first class, steps " + steps, y, 1, steps, 1, steps, first[steps]);
        }
        run("of the first class, steps 6", y, 1, 6, 0, 6, first[5]);
    }

    private static void initialisingAndFailing() {
        SiteSealer x = classes(-1, -1);
        x.field(0, 1, 0, 1);
        x.ref(0, true, 0, 9, 0);
        x.number(0, 5, false);
        Ops.write(x, 0, x.method(0, 0, 0, 1, 0), Ops.PUSH, 1, Ops.OUT, 0, Ops.GETS, 0, Ops.RET, 0);
        x.ref(1, true, 0, 1, 0);
        Ops.main(x, 1, 1, Ops.LOAD, 0, Ops.POP, 0, Ops.GETS, 0, Ops.RET, 0);
        run("an INIT that fails", x, 1, 100, 4, 4, "5:1 5:0 1:5");
    }

    /** Method 2 calls itself as often as its argument says. */
    private static void depth() {
        for (int deep = 14; deep <= 15; deep++) {
            SiteSealer y = classes(-1);
            y.number(0, deep, false);
            y.number(0, 1, false);
            y.ref(0, false, 0, 2, 1);
            Ops.write(y, 0, y.method(0, 2, 1, 1, 0), Ops.LOAD, 0, Ops.ZERO, 7, Ops.LOAD, 0, Ops.PUSH, 1, Ops.SUB, 0,
                    Ops.STATIC, 2, Ops.RET, 0, Ops.LOAD, 0, Ops.RET, 0);
            Ops.main(y, 0, 1, Ops.PUSH, 0, Ops.STATIC, 2, Ops.RET, 0);
            if (deep == 14) {
                run("16 methods within each other", y, 0, 300, 0, 2 + 14 * 6 + 4 + 14 + 1, "5:0");
            } else {
                run("17 methods within each other", y, 0, 300, 6, 2 + 14 * 6 + 5, "5:0");
            }
        }
        depthOfVirtual();
        depthOfInits();
    }

    private static void depthOfVirtual() {
        SiteSealer x = classes(-1);
        x.ref(0, false, 0, 2, 0);
        Ops.write(x, 0, x.method(0, 2, 0, 0, 0), Ops.LOAD, 0, Ops.VIRTUAL, 0, Ops.RET, 0);
        Ops.main(x, 0, 1, Ops.NEW, 0, Ops.VIRTUAL, 0, Ops.RET, 0);
        run("VIRTUAL without an end", x, 0, 300, 6, 2 + 14 * 2 + 1, "5:0");
    }

    /** Method 2 calls itself until its argument is 0, and then needs class 1, which has an INIT or none. */
    private static SiteSealer deepNeed(int deep, boolean hasInit, boolean calls) {
        SiteSealer x = classes(-1, -1);
        x.number(0, deep, false);
        x.number(0, 1, false);
        x.ref(0, false, 0, 2, 1);
        x.ref(0, !calls, 1, 3, 0);
        x.field(1, 3, 0, 1);
        method(x, 1, 3, 1);
        if (hasInit) {
            init(x, 1, 1, 11);
        }
        Ops.write(x, 0, x.method(0, 2, 1, 1, 0), Ops.LOAD, 0, Ops.ZERO, 7, Ops.LOAD, 0, Ops.PUSH, 1, Ops.SUB, 0,
                Ops.STATIC, 2, Ops.RET, 0, calls ? Ops.STATIC : Ops.GETS, 3, Ops.RET, 0);
        Ops.main(x, 0, 1, Ops.PUSH, 0, Ops.STATIC, 2, Ops.RET, 0);
        return x;
    }

    private static void depthOfInits() {
        run("an INIT as 16th", deepNeed(13, true, false), 0, 300, 0, 2 + 13 * 6 + 2 + 4 + 2 + 13 + 1, "5:0 5:1 1:11");
        run("an INIT as 17th", deepNeed(14, true, false), 0, 300, 6, 2 + 14 * 6 + 2, "5:0 5:1");
        run("no INIT as 17th", deepNeed(14, false, false), 0, 300, 0, 2 + 14 * 6 + 2 + 2 + 14 + 1, "5:0 5:1");
        run("a call as 17th, its class initialised before", deepNeed(14, false, true), 0, 300, 6, 2 + 14 * 6 + 2, "5:0 5:1");
        // The INIT of the first class runs within the method that needs it.
        for (int deep = 13; deep <= 14; deep++) {
            SiteSealer x = classes(-1);
            x.number(0, deep, false);
            x.number(0, 1, false);
            x.ref(0, false, 0, 2, 1);
            Ops.write(x, 0, x.method(0, 2, 1, 1, 0), Ops.LOAD, 0, Ops.ZERO, 7, Ops.LOAD, 0, Ops.PUSH, 1, Ops.SUB, 0,
                    Ops.STATIC, 2, Ops.RET, 0, Ops.LOAD, 0, Ops.RET, 0);
            Ops.write(x, 0, x.method(0, 0, 0, 1, 0), Ops.PUSH, 0, Ops.STATIC, 2, Ops.RET, 0);
            Ops.main(x, 0, 1, Ops.LOAD, 0, Ops.RET, 0);
            run("within the first INIT, " + deep, x, 0, 300, deep == 13 ? 0 : 6,
                    deep == 13 ? 2 + 13 * 6 + 4 + 13 + 1 + 2 : 2 + 13 * 6 + 5, "5:0");
        }
    }

    private static void objects() {
        for (int objects = 40; objects <= 41; objects++) {
            SiteSealer x = classes(-1, -1);
            init(x, 1, 1, 11);
            x.number(0, objects - 1, false);
            x.number(0, 1, false);
            Ops.main(x, 0, 1, Ops.PUSH, 0, Ops.STORE, 0, Ops.LOAD, 0, Ops.ZERO, 11, Ops.NEW, 0, Ops.POP, 0,
                    Ops.LOAD, 0, Ops.PUSH, 1, Ops.SUB, 0, Ops.STORE, 0, Ops.GOTO, 2,
                    Ops.NEW, 1, Ops.SAY, 0, Ops.LOAD, 0, Ops.RET, 0);
            int before = 2 + (objects - 1) * 9 + 2 + 4;
            run(objects + " objects", x, 0, 3000, objects == 40 ? 0 : 7, objects == 40 ? before + 4 : before,
                    objects == 40 ? "5:0 5:1 1:11 3:1" : "5:0 5:1 1:11");
        }
    }

    private static void rows() {
        for (int kind = 0; kind < 3; kind++) {
            SiteSealer x = classes(-1, -1);
            x.number(0, 299, false);
            x.number(0, 1, false);
            int last = kind == 0 ? Ops.LOAD : kind == 1 ? Ops.NULL : Ops.NEW;
            int tell = kind == 0 ? Ops.OUT : kind == 1 ? Ops.SAY : Ops.POP;
            Ops.main(x, 0, 1, Ops.PUSH, 0, Ops.STORE, 0, Ops.LOAD, 0, Ops.ZERO, 11, Ops.LOAD, 0, Ops.OUT, 0,
                    Ops.LOAD, 0, Ops.PUSH, 1, Ops.SUB, 0, Ops.STORE, 0, Ops.GOTO, 2,
                    last, 1, tell, 0, Ops.LOAD, 0, Ops.RET, 0);
            x.seal(5);
            due.is("a 301st row", x.run(true, 0, 1, 0, 3000), 8);
            due.is("rows", x.told(true, -1), 300);
            due.is("done", x.told(true, -3), 2 + 299 * 9 + 2 + (kind == 2 ? 0 : 1));
            due.is("the 300th row", x.told(true, 599), 1);
            due.fails("the 301st row", IndexOutOfBoundsException.class, () -> x.told(true, 600));
            due.is("as it is", x.run(false, 0, 1, 0, 3000), 8);
            due.is("alike", x.alike(), true);
        }
    }

    private static void eachRunBeginsAnew() {
        SiteSealer x = classes(-1);
        x.field(0, 1, 0, 1);
        x.field(0, 2, 0, 0);
        x.ref(0, true, 0, 1, 0);
        x.ref(0, true, 0, 2, 0);
        x.number(0, 1, false);
        Ops.write(x, 0, x.method(0, 1, 0, 1, 16), Ops.GETS, 0, Ops.OUT, 0, Ops.LOAD, 5, Ops.OUT, 0, Ops.NEW, 0, Ops.STORE, 4,
                Ops.LOAD, 4, Ops.GETF, 1, Ops.OUT, 0, Ops.LOAD, 4, Ops.PUSH, 2, Ops.PUTF, 1,
                Ops.PUSH, 2, Ops.PUTS, 0, Ops.PUSH, 2, Ops.STORE, 5, Ops.GETS, 0, Ops.RET, 0);
        for (int i = 0; i < 3; i++) {
            run("anew", x, 0, 100, 0, 18, "5:0 1:0 1:0 1:0");
        }
    }
}
