import java.util.NoSuchElementException;

/** The sentences that name a boundary of a run: RUNNING, each STATUS, and promise 16. */
public final class BoundsOfRunningTest {
    private static final Class<NoSuchElementException> NONE = NoSuchElementException.class;
    private static final Class<IllegalArgumentException> BOUNDS = IllegalArgumentException.class;
    private static final Class<IllegalStateException> STATE = IllegalStateException.class;
    private static final int[] FAR = {Integer.MIN_VALUE, Integer.MAX_VALUE};
    private static final int[] FOUND_OPS = {Ops.STATIC, Ops.VIRTUAL, Ops.GETS, Ops.PUTS, Ops.GETF, Ops.PUTF};
    private static final Due due = new Due("BoundsOfRunningTest");

    public static void main(String[] args) {
        stepsFrom0To3000();
        classesAndNamesOfRuns();
        staticPrivateOrNot();
        shapesWithArguments();
        endedOrOneMore();
        exactly3000();
        limitComesBeforeOthers();
        limitWithinInits();
        missing();
        unfitByStatic();
        barred();
        nullReceivers();
        unfitReceivers();
        orderOfStatuses();
        virtualPassesOver();
        sixteenCalls();
        sixteenWithInits();
        depthIsFreedBehindRet();
        deepComesBehindReceivers();
        fortyObjects();
        objectsBehindInit();
        threeHundredRows();
        rowsBeforeDepth();
        initialisedOnce();
        topmostFirst();
        whoNeedsInitialised();
        initOfAnyFlags();
        initThatNeedsItself();
        resultOfInitIsDropped();
        initThatFails();
        logValues();
        numbersWrapAround();
        stringsOfTheSameBytes();
        whatLiesBelowStays();
        eightOnEachStack();
        localsAtFirst();
        localBehindArguments();
        fieldsAtFirst();
        lastFieldOfLastClass();
        linesOfEight();
        eightClassesAnd3000Steps();
        fromTheBeginningOfAll();
        due.end();
    }

    private static SiteSealer classes(int... parents) {
        SiteSealer x = new SiteSealer();
        for (int parent : parents) {
            x.type(parent);
        }
        return x;
    }

    /** Runs method 1 of a class, as it is and sealed. */
    private static void run(String what, SiteSealer x, int type, int steps, int status, int done, String rows) {
        x.seal(what.hashCode());
        for (int s = 0; s < 2; s++) {
            boolean sealed = s == 1;
            String which = what + (sealed ? ", sealed" : "");
            due.is(which + ": status", x.run(sealed, type, 1, 0, steps), status);
            due.is(which + ": status told", x.told(sealed, -2), status);
            due.is(which + ": done", x.told(sealed, -3), done);
            due.text(which + ": rows", Ops.rows(x, sealed), rows);
            if (status != 0) {
                due.is(which + ": no result", x.told(sealed, -4), 0);
            }
        }
        due.is(what + ": alike", x.alike(), true);
    }

    /** A method of two instructions. */
    private static int method(SiteSealer x, int type, int name, int shape, int flags) {
        int m = x.method(type, name, shape, flags, 128);
        Ops.write(x, type, m, shape >> 5 == 1 ? Ops.NULL : Ops.LOAD, 6, Ops.RET, 0);
        return m;
    }

    /** An INIT of four instructions that tells a number. */
    private static void init(SiteSealer x, int type, int number) {
        int place = x.number(type, number, false);
        Ops.write(x, type, x.method(type, 0, 0, 1, 0), Ops.PUSH, place, Ops.OUT, 0, Ops.PUSH, place, Ops.RET, 0);
    }

    /** "IllegalArgumentException when .. steps is not 0 .. 3000". */
    private static void stepsFrom0To3000() {
        SiteSealer x = classes(-1);
        method(x, 0, 1, 0, 1);
        x.seal(1);
        for (int s = 0; s < 2; s++) {
            boolean sealed = s == 1;
            for (int steps : new int[] {-1, 3001, FAR[0], FAR[1]}) {
                due.fails("steps " + steps, BOUNDS, () -> x.run(sealed, 0, 1, 0, steps));
            }
            due.is("no run came of it", x.told(sealed, -1), 0);
            due.fails("nor a status", IndexOutOfBoundsException.class, () -> x.told(sealed, -2));
            due.is("steps 0", x.run(sealed, 0, 1, 0, 0), 1);
            due.is("steps 3000", x.run(sealed, 0, 1, 0, 3000), 0);
        }
    }

    /** "NoSuchElementException when there is no such class, or method (INIT is none)". */
    private static void classesAndNamesOfRuns() {
        SiteSealer x = classes(-1, 0, -1);
        method(x, 0, 1, 0, 1);
        method(x, 0, 31, 32, 1);
        method(x, 0, 0, 0, 1);
        for (int c : new int[] {-1, 3, 8, FAR[0], FAR[1]}) {
            due.fails("class " + c, NONE, () -> x.run(false, c, 1, 0, 9));
        }
        for (int name : new int[] {-1, 0, 2, 30, 32, FAR[0], FAR[1]}) {
            due.fails("name " + name, NONE, () -> x.run(false, 0, name, 0, 9));
        }
        for (int shape : new int[] {-4, 4, 28, 32, 64, FAR[0]}) {
            due.fails("shape " + shape, NONE, () -> x.run(false, 0, 1, shape, 9));
        }
        due.fails("a class of another line", NONE, () -> x.run(false, 2, 1, 0, 9));
        due.is("a class below", x.run(false, 1, 1, 0, 9), 0);
        due.is("the greatest name, a reference as its result", x.run(false, 0, 31, 32, 9), 0);
        due.fails("a class above", NONE, () -> {
            SiteSealer y = classes(-1, 0);
            method(y, 1, 1, 0, 1);
            return y.run(false, 0, 1, 0, 9);
        });
    }

    /** "The first method .. in a class's line, which must be static (NoSuchElementException if it is not; private or not)". */
    private static void staticPrivateOrNot() {
        for (int flags : new int[] {0, 1, 4, 5}) {
            SiteSealer x = classes(-1, 0, 1);
            method(x, 0, 1, 0, 1);
            method(x, 1, 1, 0, flags);
            if ((flags & 1) == 0) {
                due.fails("flags " + flags, NONE, () -> x.run(false, 1, 1, 0, 9));
                due.fails("flags " + flags + ", from below", NONE, () -> x.run(false, 2, 1, 0, 9));
                due.is("the one above it is asked of its own class", x.run(false, 0, 1, 0, 9), 0);
            } else {
                due.is("flags " + flags, x.run(false, 1, 1, 0, 9), 0);
                due.is("flags " + flags + ", from below", x.run(false, 2, 1, 0, 9), 0);
                due.text("by the class that has it", Ops.rows(x, false), "5:0 5:1");
            }
        }
    }

    /** "IllegalArgumentException when shape has arguments". */
    private static void shapesWithArguments() {
        for (int shape = 0; shape < 64; shape++) {
            SiteSealer x = classes(-1);
            method(x, 0, 1, shape, 1);
            int shape0 = shape;
            if ((shape & 3) == 0) {
                due.is("shape " + shape, x.run(false, 0, 1, shape, 9), 0);
            } else {
                due.fails("shape " + shape, BOUNDS, () -> x.run(false, 0, 1, shape0, 9));
                due.fails("shape " + shape + " of no such method", NONE, () -> x.run(false, 0, 2, shape0, 9));
            }
        }
    }

    /** "0 ended; 1 as many instructions as it may were done, and one more would be". */
    private static void endedOrOneMore() {
        SiteSealer x = classes(-1);
        method(x, 0, 1, 0, 1);
        run("none", x, 0, 0, 1, 0, "");
        run("one of two", x, 0, 1, 1, 1, "5:0");
        run("two of two", x, 0, 2, 0, 2, "5:0");
        run("more than needed", x, 0, 3, 0, 2, "5:0");
        SiteSealer y = classes(-1);
        y.ref(0, false, 0, 2, 0);
        method(y, 0, 2, 0, 1);
        Ops.main(y, 0, 1, Ops.STATIC, 0, Ops.RET, 0);
        for (int steps = 1; steps < 4; steps++) {
            run("a call, and the one who calls, " + steps, y, 0, steps, 1, steps, "5:0");
        }
        run("all four of both", y, 0, 4, 0, 4, "5:0");
    }

    /** Instructions: 2 before, 7 in each round, 2 as the round ends, so many more of padding, 2 at the end. */
    private static SiteSealer loop(int rounds, int padding) {
        SiteSealer x = classes(-1);
        x.number(0, rounds, false);
        x.number(0, 1, false);
        int m = Ops.main(x, 0, 1, Ops.PUSH, 0, Ops.STORE, 0, Ops.LOAD, 0, Ops.ZERO, 9, Ops.LOAD, 0, Ops.PUSH, 1, Ops.SUB, 0,
                Ops.STORE, 0, Ops.GOTO, 2);
        for (int i = 0; i < padding; i++) {
            Ops.write(x, 0, m, Ops.GOTO, 10 + i);
        }
        Ops.write(x, 0, m, Ops.LOAD, 0, Ops.RET, 0);
        return x;
    }

    private static void exactly3000() {
        run("2999 instructions", loop(427, 4), 0, 3000, 0, 2999, "5:0");
        run("3000 instructions", loop(427, 5), 0, 3000, 0, 3000, "5:0");
        run("3000 instructions, one step less", loop(427, 5), 0, 2999, 1, 2999, "5:0");
        run("3001 instructions", loop(427, 6), 0, 3000, 1, 3000, "5:0");
    }

    /** A program that comes to a status of 2 .. 5 behind two instructions, or three. */
    private static SiteSealer comesTo(int status) {
        SiteSealer x = classes(-1, -1);
        x.field(1, 2, 0, 0);
        x.field(1, 3, 0, 5);
        x.ref(0, true, 1, 2, 0);
        x.ref(0, true, 1, 9, 0);
        x.ref(0, true, 1, 3, 0);
        x.string(0, 1, 1);
        int m = x.method(0, 1, 0, 1, 0);
        Ops.write(x, 0, m, Ops.LOAD, 0, Ops.POP, 0);
        if (status == 2 || status == 3) {
            Ops.write(x, 0, m, status == 2 ? Ops.NULL : Ops.PUSH, 3, Ops.GETF, 0);
        } else {
            Ops.write(x, 0, m, Ops.GETS, status == 4 ? 1 : 2);
        }
        Ops.write(x, 0, m, Ops.RET, 0);
        return x;
    }

    /** ".., and one more would be (nor is done what that needs)": at the limit nothing more is tried. */
    private static void limitComesBeforeOthers() {
        for (int status = 2; status <= 5; status++) {
            SiteSealer x = comesTo(status);
            int before = status <= 3 ? 3 : 2;
            run("at the limit before " + status, x, 0, before, 1, before, "5:0");
            run("a step more, " + status, x, 0, before + 1, status, before, "5:0");
            run("many more, " + status, x, 0, 3000, status, before, "5:0");
        }
        run("at the limit before 6", deep(17, false), 0, callsUntil(17), 1, callsUntil(17), "5:0");
        run("a step more, 6", deep(17, false), 0, callsUntil(17) + 1, 6, callsUntil(17), "5:0");
        run("at the limit before 7", objects(41, 0), 0, untilObject(41), 1, untilObject(41), "5:0");
        run("a step more, 7", objects(41, 0), 0, untilObject(41) + 1, 7, untilObject(41), "5:0");
        SiteSealer x = rows(301, Ops.OUT);
        due.is("at the limit before 8", x.run(false, 0, 1, 0, untilRow(301)), 1);
        due.is("done", x.told(false, -3), untilRow(301));
        due.is("a step more, 8", x.run(false, 0, 1, 0, untilRow(301) + 1), 8);
        due.is("done", x.told(false, -3), untilRow(301));
    }

    private static void limitWithinInits() {
        SiteSealer x = classes(-1, 0);
        init(x, 0, 10);
        init(x, 1, 11);
        Ops.main(x, 1, 1, Ops.LOAD, 0, Ops.RET, 0);
        String[] rows = {"", "5:0", "5:0 1:10", "5:0 1:10", "5:0 1:10", "5:0 1:10 5:1", "5:0 1:10 5:1 1:11",
            "5:0 1:10 5:1 1:11", "5:0 1:10 5:1 1:11", "5:0 1:10 5:1 1:11"};
        for (int steps = 0; steps < 10; steps++) {
            run("before the first instruction, " + steps, x, 1, steps, 1, steps, rows[steps]);
        }
        run("just enough", x, 1, 10, 0, 10, rows[9]);
        SiteSealer y = classes(-1, -1);
        Ops.main(y, 0, 1, Ops.LOAD, 0, Ops.POP, 0, Ops.NEW, 1, Ops.POP, 0, Ops.LOAD, 0, Ops.RET, 0);
        run("a class without INIT at the limit", y, 0, 2, 1, 2, "5:0");
        run("a class without INIT, a step more", y, 0, 3, 1, 3, "5:0 5:1");
    }

    /** Class 2 asks for a member of class 0, or of class 1 below it. */
    private static SiteSealer asking(int op, int owner, int name) {
        SiteSealer x = classes(-1, 0, -1);
        return asked(x, 2, op, owner, name, Ops.NULL, 0);
    }

    /** Method 1 of a class that meets a member of name and shape, or kind, 0 with a receiver that is made so. */
    private static SiteSealer asked(SiteSealer x, int asker, int op, int owner, int name, int maker, int makersA) {
        boolean isField = op >= Ops.GETS;
        int entry = x.ref(asker, isField, owner, name, 0);
        int m = x.method(asker, 1, 0, 1, 0);
        if (op == Ops.VIRTUAL || op == Ops.GETF || op == Ops.PUTF) {
            x.op(asker, m, maker, makersA);
        }
        if (op == Ops.PUTS || op == Ops.PUTF) {
            x.op(asker, m, Ops.LOAD, 0);
        }
        x.op(asker, m, op, entry);
        if (op == Ops.PUTS || op == Ops.PUTF) {
            x.op(asker, m, Ops.LOAD, 0);
        }
        x.op(asker, m, Ops.RET, 0);
        return x;
    }

    private static int takenBy(int op) {
        int receivers = op == Ops.VIRTUAL || op == Ops.GETF || op == Ops.PUTF ? 1 : 0;
        return receivers + (op == Ops.PUTS || op == Ops.PUTF ? 1 : 0);
    }

    private static boolean wantsStatic(int op) {
        return op == Ops.STATIC || op == Ops.GETS || op == Ops.PUTS;
    }

    private static void member(SiteSealer x, int op, int type, int name, int shape, int flags) {
        if (op >= Ops.GETS) {
            x.field(type, name, shape, flags);
        } else {
            method(x, type, name, shape, flags);
        }
    }

    /** "the first of that name and shape (kind); INIT is never found: 4 MISSING". */
    private static void missing() {
        for (int op : FOUND_OPS) {
            int fit = wantsStatic(op) ? 1 : 0;
            int done = takenBy(op);
            run("none, op " + op, asking(op, 1, 5), 2, 99, 4, done, "5:2");
            SiteSealer x = asking(op, 0, 5);
            member(x, op, 1, 5, 0, fit);
            run("below alone, op " + op, x, 2, 99, 4, done, "5:2");
            x = asking(op, 0, 5);
            member(x, op, 2, 5, 0, fit);
            run("of the one who asks alone, op " + op, x, 2, 99, 4, done, "5:2");
            x = asking(op, 1, 5);
            member(x, op, 1, 5, op >= Ops.GETS ? 1 : 4, fit);
            run("of another kind, or shape, op " + op, x, 2, 99, 4, done, "5:2");
            x = asking(op, 1, 0);
            if (op < Ops.GETS) {
                method(x, 1, 0, 0, 1);
                method(x, 0, 0, 0, 1);
            }
            run("name 0, op " + op, x, 2, 99, 4, done, "5:2");
        }
    }

    /** "3 UNFIT, if it is static, and the op wants none, or the other way round": of the first one that is found. */
    private static void unfitByStatic() {
        for (int op : FOUND_OPS) {
            int fit = wantsStatic(op) ? 1 : 0;
            SiteSealer x = asking(op, 1, 5);
            member(x, op, 1, 5, 0, 1 - fit);
            run("op " + op, x, 2, 99, 3, takenBy(op), "5:2");
            x = asking(op, 1, 5);
            member(x, op, 0, 5, 0, fit);
            member(x, op, 1, 5, 0, 1 - fit);
            run("a fit one above, op " + op, x, 2, 99, 3, takenBy(op), "5:2");
            x = asking(op, 1, 5);
            member(x, op, 1, 5, 0, 1 - fit + 4);
            run("and private, op " + op, x, 2, 99, 3, takenBy(op), "5:2");
        }
    }

    /** "5 BARRED, if it is private, and its class is not the running method's". */
    private static void barred() {
        for (int op : FOUND_OPS) {
            int fit = wantsStatic(op) ? 1 : 0;
            SiteSealer x = asking(op, 1, 5);
            member(x, op, 1, 5, 0, fit + 4);
            run("of another class, op " + op, x, 2, 99, 5, takenBy(op), "5:2");
            SiteSealer y = asked(classes(-1, 0), 1, op, 1, 5, Ops.NULL, 0);
            member(y, op, 0, 5, 0, fit + 4);
            run("of a class above, op " + op, y, 1, 99, 5, takenBy(op), "5:0 5:1");
            SiteSealer z = asked(classes(-1, 0), 0, op, 1, 5, Ops.NEW, 1);
            member(z, op, 0, 5, 0, fit + 4);
            due.is("of its own, found from below, op " + op, z.run(false, 0, 1, 0, 99), 0);
            SiteSealer w = asked(classes(-1, 0), 0, op, 1, 5, Ops.NEW, 1);
            member(w, op, 1, 5, 0, fit + 4);
            run("of a class below, op " + op, w, 0, 99, 5, takenBy(op), takenBy(op) == 0 || op == Ops.PUTS ? "5:0" : "5:0 5:1");
        }
    }

    private static final int[] ON_OBJECTS = {Ops.VIRTUAL, Ops.GETF, Ops.PUTF};

    /** "VIRTUAL, GETF, PUTF, behind these: 2, if r is null". */
    private static void nullReceivers() {
        for (int op : ON_OBJECTS) {
            SiteSealer x = asking(op, 1, 5);
            member(x, op, 1, 5, 0, 0);
            run("null, op " + op, x, 2, 99, 2, takenBy(op), "5:2");
        }
    }

    /** "3, if it is a string, or its class has not the class of what was found in its line". */
    private static void unfitReceivers() {
        int[][] makers = {{Ops.PUSH, 0}, {Ops.NEW, 0}, {Ops.NEW, 1}, {Ops.NEW, 2}, {Ops.NEW, 3}};
        int[] statuses = {3, 3, 0, 0, 3};
        for (int op : ON_OBJECTS) {
            for (int i = 0; i < makers.length; i++) {
                SiteSealer x = classes(-1, 0, 1, 0);
                x.string(3, 1, 8);
                member(x, op, 1, 5, 0, 0);
                asked(x, 3, op, 2, 5, makers[i][0], makers[i][1]);
                due.is("op " + op + " on " + i, x.run(false, 3, 1, 0, 99), statuses[i]);
                x.seal(i);
                due.is("op " + op + " on " + i + ", sealed", x.run(true, 3, 1, 0, 99), statuses[i]);
                due.is("op " + op + " on " + i + ", alike", x.alike(), true);
            }
            SiteSealer x = classes(-1);
            x.string(0, 0, 0);
            member(x, op, 0, 5, 0, 0);
            run("an empty string is not null, op " + op, asked(x, 0, op, 0, 5, Ops.PUSH, 0), 0, 99, 3, takenBy(op), "5:0");
        }
    }

    /** Missing, unfit, barred, null, unfit receiver, in this order. */
    private static void orderOfStatuses() {
        for (int op : ON_OBJECTS) {
            int done = takenBy(op);
            run("missing and null, op " + op, asking(op, 1, 5), 2, 99, 4, done, "5:2");
            SiteSealer x = asking(op, 1, 5);
            member(x, op, 1, 5, 0, 5);
            run("unfit, barred and null, op " + op, x, 2, 99, 3, done, "5:2");
            x = asking(op, 1, 5);
            member(x, op, 1, 5, 0, 4);
            run("barred and null, op " + op, x, 2, 99, 5, done, "5:2");
            x = asked(classes(-1, -1), 0, op, 1, 5, Ops.NEW, 0);
            member(x, op, 1, 5, 0, 4);
            run("barred and of another line, op " + op, x, 0, 99, 5, done, "5:0");
        }
    }

    /** "calls the first .. in the line of r's class that is neither static nor private". */
    private static void virtualPassesOver() {
        for (int flags : new int[] {0, 1, 4, 5}) {
            SiteSealer x = classes(-1, 0, 1);
            x.number(0, 10, false);
            x.number(1, 11, false);
            x.ref(0, false, 0, 5, 0);
            Ops.write(x, 0, x.method(0, 5, 0, 0, 0), Ops.PUSH, 0, Ops.RET, 0);
            Ops.write(x, 1, x.method(1, 5, 0, flags, 0), Ops.PUSH, 0, Ops.RET, 0);
            Ops.main(x, 0, 1, Ops.NEW, 2, Ops.VIRTUAL, 1, Ops.OUT, 0, Ops.LOAD, 0, Ops.RET, 0);
            run("flags " + flags, x, 0, 99, 0, 7, "5:0 5:1 5:2 1:" + (flags == 0 ? 11 : 10));
        }
        SiteSealer x = classes(-1, 0);
        x.number(0, 10, false);
        x.number(1, 11, false);
        x.ref(0, false, 0, 5, 0);
        Ops.write(x, 0, x.method(0, 5, 0, 4, 0), Ops.PUSH, 0, Ops.RET, 0);
        Ops.write(x, 1, x.method(1, 5, 0, 0, 0), Ops.PUSH, 0, Ops.RET, 0);
        Ops.main(x, 0, 1, Ops.NEW, 1, Ops.VIRTUAL, 1, Ops.OUT, 0, Ops.LOAD, 0, Ops.RET, 0);
        run("what is private is called itself", x, 0, 99, 0, 7, "5:0 5:1 1:10");
    }

    /** So many methods come to be within each other: method 1, and method 2 in itself. */
    private static SiteSealer deep(int methods, boolean isVirtual) {
        SiteSealer x = classes(-1);
        x.number(0, methods - 2, false);
        x.number(0, 1, false);
        x.ref(0, false, 0, 2, 1);
        int shift = isVirtual ? 1 : 0;
        int m = x.method(0, 2, 1, isVirtual ? 0 : 1, 0);
        Ops.write(x, 0, m, Ops.LOAD, shift, Ops.ZERO, 7 + shift);
        if (isVirtual) {
            Ops.write(x, 0, m, Ops.LOAD, 0);
        }
        Ops.write(x, 0, m, Ops.LOAD, shift, Ops.PUSH, 1, Ops.SUB, 0, isVirtual ? Ops.VIRTUAL : Ops.STATIC, 2, Ops.RET, 0,
                Ops.LOAD, shift, Ops.RET, 0);
        int main = x.method(0, 1, 0, 1, 0);
        if (isVirtual) {
            Ops.write(x, 0, main, Ops.NEW, 0);
        }
        Ops.write(x, 0, main, Ops.PUSH, 0, isVirtual ? Ops.VIRTUAL : Ops.STATIC, 2, Ops.RET, 0);
        return x;
    }

    /** How many instructions of deep come before the call of the last of so many methods. */
    private static int callsUntil(int methods) {
        return 2 + (methods - 3) * 6 + 5;
    }

    /** "6 more than 16 methods within each other". */
    private static void sixteenCalls() {
        run("15 by STATIC", deep(15, false), 0, 3000, 0, 2 + 13 * 6 + 4 + 14, "5:0");
        run("16 by STATIC", deep(16, false), 0, 3000, 0, 2 + 14 * 6 + 4 + 15, "5:0");
        run("17 by STATIC", deep(17, false), 0, 3000, 6, callsUntil(17), "5:0");
        run("18 by STATIC", deep(18, false), 0, 3000, 6, callsUntil(17), "5:0");
        run("16 by VIRTUAL", deep(16, true), 0, 3000, 0, 3 + 14 * 7 + 4 + 15, "5:0");
        run("17 by VIRTUAL", deep(17, true), 0, 3000, 6, 3 + 14 * 7 + 6, "5:0");
    }

    /** The innermost of so many methods needs class 1, by an op. */
    private static SiteSealer deepNeed(int methods, boolean hasInit, int op) {
        SiteSealer x = classes(-1, -1);
        x.number(0, methods - 2, false);
        x.number(0, 1, false);
        x.ref(0, false, 0, 2, 1);
        x.ref(0, op == Ops.GETS, 1, 3, 0);
        x.field(1, 3, 0, 1);
        method(x, 1, 3, 0, 1);
        if (hasInit) {
            init(x, 1, 11);
        }
        Ops.write(x, 0, x.method(0, 2, 1, 1, 0), Ops.LOAD, 0, Ops.ZERO, 7, Ops.LOAD, 0, Ops.PUSH, 1, Ops.SUB, 0,
                Ops.STATIC, 2, Ops.RET, 0, op, 3, Ops.RET, 0);
        Ops.main(x, 0, 1, Ops.PUSH, 0, Ops.STATIC, 2, Ops.RET, 0);
        return x;
    }

    /** INITs are methods within those that need them; that of the run's own class is within its first method. */
    private static void sixteenWithInits() {
        run("an INIT as 16th", deepNeed(15, true, Ops.GETS), 0, 3000, 0, 2 + 13 * 6 + 2 + 4 + 2 + 14, "5:0 5:1 1:11");
        run("an INIT as 17th", deepNeed(16, true, Ops.GETS), 0, 3000, 6, 2 + 14 * 6 + 2, "5:0 5:1");
        run("no INIT to be a 17th", deepNeed(16, false, Ops.GETS), 0, 3000, 0, 2 + 14 * 6 + 2 + 2 + 15, "5:0 5:1");
        run("a call as 16th, behind an INIT", deepNeed(15, true, Ops.STATIC), 0, 3000, 0, 2 + 13 * 6 + 2 + 4 + 4 + 14,
                "5:0 5:1 1:11");
        run("a call as 17th, its class initialised before", deepNeed(16, false, Ops.STATIC), 0, 3000, 6, 2 + 14 * 6 + 2,
                "5:0 5:1");
        for (int methods = 16; methods <= 17; methods++) {
            SiteSealer x = classes(-1);
            x.number(0, methods - 3, false);
            x.number(0, 1, false);
            x.ref(0, false, 0, 2, 1);
            Ops.write(x, 0, x.method(0, 2, 1, 1, 0), Ops.LOAD, 0, Ops.ZERO, 7, Ops.LOAD, 0, Ops.PUSH, 1, Ops.SUB, 0,
                    Ops.STATIC, 2, Ops.RET, 0, Ops.LOAD, 0, Ops.RET, 0);
            Ops.write(x, 0, x.method(0, 0, 0, 1, 0), Ops.PUSH, 0, Ops.STATIC, 2, Ops.RET, 0);
            Ops.main(x, 0, 1, Ops.LOAD, 0, Ops.RET, 0);
            run(methods + " within the first INIT", x, 0, 3000, methods == 16 ? 0 : 6,
                    methods == 16 ? 2 + 13 * 6 + 4 + 14 + 2 : 2 + 13 * 6 + 5, "5:0");
        }
    }

    private static void depthIsFreedBehindRet() {
        SiteSealer x = classes(-1);
        x.ref(0, false, 0, 2, 0);
        method(x, 0, 2, 0, 1);
        int m = x.method(0, 1, 0, 1, 0);
        for (int i = 0; i < 19; i++) {
            Ops.write(x, 0, m, Ops.STATIC, 0, Ops.POP, 0);
        }
        Ops.write(x, 0, m, Ops.LOAD, 0, Ops.RET, 0);
        run("19 calls behind each other", x, 0, 3000, 0, 19 * 4 + 2, "5:0");
    }

    private static void deepComesBehindReceivers() {
        SiteSealer y = classes(-1);
        y.number(0, 14, false);
        y.number(0, 1, false);
        y.ref(0, false, 0, 2, 1);
        y.ref(0, false, 0, 3, 0);
        method(y, 0, 3, 0, 0);
        Ops.write(y, 0, y.method(0, 2, 1, 1, 0), Ops.LOAD, 0, Ops.ZERO, 7, Ops.LOAD, 0, Ops.PUSH, 1, Ops.SUB, 0,
                Ops.STATIC, 2, Ops.RET, 0, Ops.NULL, 0, Ops.VIRTUAL, 3, Ops.RET, 0);
        Ops.main(y, 0, 1, Ops.PUSH, 0, Ops.STATIC, 2, Ops.RET, 0);
        run("null, where a call would be the 17th", y, 0, 3000, 2, 2 + 14 * 6 + 3, "5:0");
    }

    /** So many objects of a class are made, in a loop. */
    private static SiteSealer objects(int count, int type) {
        SiteSealer x = classes(-1, -1);
        x.number(0, count, false);
        x.number(0, 1, false);
        Ops.main(x, 0, 1, Ops.PUSH, 0, Ops.STORE, 0, Ops.LOAD, 0, Ops.ZERO, 11, Ops.NEW, type, Ops.POP, 0,
                Ops.LOAD, 0, Ops.PUSH, 1, Ops.SUB, 0, Ops.STORE, 0, Ops.GOTO, 2, Ops.LOAD, 0, Ops.RET, 0);
        return x;
    }

    /** How many instructions of objects come before the one that makes the n-th. */
    private static int untilObject(int n) {
        return 2 + (n - 1) * 9 + 2;
    }

    /** "7 a 41st object". */
    private static void fortyObjects() {
        run("39 objects", objects(39, 0), 0, 3000, 0, 2 + 39 * 9 + 4, "5:0");
        run("40 objects", objects(40, 0), 0, 3000, 0, 2 + 40 * 9 + 4, "5:0");
        run("41 objects", objects(41, 0), 0, 3000, 7, untilObject(41), "5:0");
        run("40 objects of another class", objects(40, 1), 0, 3000, 0, 2 + 40 * 9 + 4, "5:0 5:1");
        run("41 objects of another class", objects(41, 1), 0, 3000, 7, untilObject(41), "5:0 5:1");
    }

    /** "NEW (whose 7 comes behind that)": the class of the 41st is initialised. */
    private static void objectsBehindInit() {
        for (int count = 39; count <= 40; count++) {
            SiteSealer x = classes(-1, -1);
            init(x, 1, 11);
            x.number(0, count, false);
            x.number(0, 1, false);
            Ops.main(x, 0, 1, Ops.PUSH, 0, Ops.STORE, 0, Ops.LOAD, 0, Ops.ZERO, 11, Ops.NEW, 0, Ops.POP, 0,
                    Ops.LOAD, 0, Ops.PUSH, 1, Ops.SUB, 0, Ops.STORE, 0, Ops.GOTO, 2,
                    Ops.NEW, 1, Ops.SAY, 0, Ops.LOAD, 0, Ops.RET, 0);
            int before = 2 + count * 9 + 2 + 4;
            run("a class made first as object " + (count + 1), x, 0, 3000, count == 39 ? 0 : 7,
                    count == 39 ? before + 4 : before, count == 39 ? "5:0 5:1 1:11 3:1" : "5:0 5:1 1:11");
        }
    }

    /** So many rows: the first one by the class, then numbers, the last one by OUT, SAY, or NEW of class 1. */
    private static SiteSealer rows(int count, int lastOp) {
        SiteSealer x = classes(-1, -1);
        x.number(0, count - 2, false);
        x.number(0, 1, false);
        init(x, 1, 11);
        int maker = lastOp == Ops.OUT ? Ops.LOAD : Ops.NULL;
        Ops.main(x, 0, 1, Ops.PUSH, 0, Ops.STORE, 0, Ops.LOAD, 0, Ops.ZERO, 11, Ops.LOAD, 0, Ops.OUT, 0,
                Ops.LOAD, 0, Ops.PUSH, 1, Ops.SUB, 0, Ops.STORE, 0, Ops.GOTO, 2, maker, 0);
        int m = 0;
        if (lastOp == Ops.NEW) {
            Ops.write(x, 0, m, Ops.POP, 0, Ops.NEW, 1, Ops.POP, 0);
        } else {
            Ops.write(x, 0, m, lastOp, 0);
        }
        Ops.write(x, 0, m, Ops.LOAD, 0, Ops.RET, 0);
        return x;
    }

    /** How many instructions of rows come before the OUT, or SAY, of the n-th row, which is the last one. */
    private static int untilRow(int n) {
        return 2 + (n - 2) * 9 + 2 + 1;
    }

    /** "The LOG has rows (300 at most)"; "8 a 301st row". */
    private static void threeHundredRows() {
        for (int op : new int[] {Ops.OUT, Ops.SAY, Ops.NEW}) {
            for (int count = 299; count <= 301; count++) {
                SiteSealer x = rows(count, op);
                x.seal(count);
                int more = op == Ops.NEW ? 1 : 0;
                // Behind the row of class 1 its INIT tells a number, too.
                boolean isFull = count + more > 300;
                int done = !isFull ? untilRow(count) + 3 + (op == Ops.NEW ? 6 : 0)
                        : untilRow(count) + more + (op == Ops.NEW && count == 300 ? 1 : 0);
                for (int s = 0; s < 2; s++) {
                    String what = count + " rows, the last one by " + op;
                    due.is(what, x.run(s == 1, 0, 1, 0, 3000), isFull ? 8 : 0);
                    due.is(what + ": rows", x.told(s == 1, -1), isFull ? 300 : count + more);
                    due.is(what + ": done", x.told(s == 1, -3), done);
                }
                due.is("alike", x.alike(), true);
            }
        }
    }

    /** A class that is logged before its INIT runs: the 301st row comes before the 17th method. */
    private static void rowsBeforeDepth() {
        for (int rows = 299; rows <= 300; rows++) {
            SiteSealer x = classes(-1, -1);
            init(x, 1, 11);
            x.number(0, rows - 1, false);
            x.number(0, 1, false);
            x.number(0, 14, false);
            x.ref(0, false, 0, 2, 1);
            Ops.write(x, 0, x.method(0, 2, 1, 1, 0), Ops.LOAD, 0, Ops.ZERO, 7, Ops.LOAD, 0, Ops.PUSH, 1, Ops.SUB, 0,
                    Ops.STATIC, 3, Ops.RET, 0, Ops.NEW, 1, Ops.POP, 0, Ops.LOAD, 0, Ops.RET, 0);
            Ops.main(x, 0, 1, Ops.PUSH, 0, Ops.STORE, 0, Ops.LOAD, 0, Ops.ZERO, 11, Ops.LOAD, 0, Ops.OUT, 0,
                    Ops.LOAD, 0, Ops.PUSH, 1, Ops.SUB, 0, Ops.STORE, 0, Ops.GOTO, 2, Ops.PUSH, 2, Ops.STATIC, 3, Ops.RET, 0);
            due.is("a 17th method behind row " + rows, x.run(false, 0, 1, 0, 3000), rows == 299 ? 6 : 8);
            due.is("rows", x.told(false, -1), 300);
            due.is("the kind of the last one", x.told(false, 598), rows == 299 ? 5 : 1);
        }
    }

    /** "counts as initialised from then on". */
    private static void initialisedOnce() {
        SiteSealer x = classes(-1, -1);
        init(x, 0, 10);
        init(x, 1, 11);
        x.field(1, 1, 0, 1);
        x.ref(0, true, 1, 1, 0);
        Ops.main(x, 0, 1, Ops.NEW, 1, Ops.SAY, 0, Ops.NEW, 1, Ops.SAY, 0, Ops.GETS, 1, Ops.PUTS, 1, Ops.NEW, 0, Ops.SAY, 0,
                Ops.LOAD, 0, Ops.RET, 0);
        run("each once", x, 0, 3000, 0, 4 + 4 + 10, "5:0 1:10 5:1 1:11 3:1 3:1 3:0");
    }

    /** "as long as there is a class in its line that does not count as initialised: the topmost such one". */
    private static void topmostFirst() {
        SiteSealer x = classes(-1, -1, 0, 2, 3);
        for (int c = 0; c < 5; c++) {
            if (c != 2) {
                init(x, c, 10 + c);
            }
        }
        Ops.main(x, 1, 1, Ops.NEW, 2, Ops.SAY, 0, Ops.NEW, 4, Ops.SAY, 0, Ops.LOAD, 0, Ops.RET, 0);
        run("a line of four, in two parts", x, 1, 3000, 0, 4 * 4 + 6, "5:1 1:11 5:0 1:10 5:2 3:2 5:3 1:13 5:4 1:14 3:4");
    }

    /** "NEW .., and STATIC, GETS, PUTS by the class of what was found": the others need none. */
    private static void whoNeedsInitialised() {
        for (int op : FOUND_OPS) {
            SiteSealer x = classes(-1, 0, -1);
            init(x, 0, 10);
            init(x, 1, 11);
            member(x, op, 0, 5, 0, wantsStatic(op) ? 1 : 0);
            asked(x, 2, op, 1, 5, Ops.NULL, 0);
            x.run(false, 2, 1, 0, 3000);
            due.text("op " + op, Ops.rows(x, false), wantsStatic(op) ? "5:2 5:0 1:10" : "5:2");
        }
        SiteSealer x = classes(-1, 0, -1);
        init(x, 0, 10);
        init(x, 1, 11);
        Ops.main(x, 2, 1, Ops.NEW, 0, Ops.SAY, 0, Ops.LOAD, 0, Ops.RET, 0);
        run("NEW of a class above", x, 2, 3000, 0, 8, "5:2 5:0 1:10 3:0");
        SiteSealer y = classes(-1, 0, 0);
        Ops.main(y, 0, 1, Ops.LOAD, 0, Ops.RET, 0);
        run("the run's method, found from below", y, 2, 3000, 0, 2, "5:0");
    }

    private static void initOfAnyFlags() {
        for (int flags = 1; flags <= 5; flags += 4) {
            SiteSealer x = classes(-1, -1);
            x.number(1, 7, false);
            Ops.write(x, 1, x.method(1, 0, 0, flags, 0), Ops.PUSH, 0, Ops.OUT, 0, Ops.LOAD, 0, Ops.RET, 0);
            Ops.main(x, 0, 1, Ops.NEW, 1, Ops.POP, 0, Ops.LOAD, 0, Ops.RET, 0);
            run("INIT of flags " + flags, x, 0, 3000, 0, 8, "5:0 5:1 1:7");
        }
    }

    private static void initThatNeedsItself() {
        SiteSealer x = classes(-1, 0);
        x.field(0, 1, 0, 1);
        x.ref(0, true, 0, 1, 0);
        x.number(0, 4, false);
        Ops.write(x, 0, x.method(0, 0, 0, 1, 0), Ops.PUSH, 1, Ops.PUTS, 0, Ops.NEW, 1, Ops.SAY, 0, Ops.GETS, 0, Ops.OUT, 0,
                Ops.NEW, 0, Ops.SAY, 0, Ops.LOAD, 0, Ops.RET, 0);
        init(x, 1, 11);
        Ops.main(x, 1, 1, Ops.LOAD, 0, Ops.RET, 0);
        run("and one below", x, 1, 3000, 0, 10 + 4 + 2, "5:0 5:1 1:11 3:1 1:4 3:0");
    }

    /** "runs to its end, if it has one (its result is dropped ..": what lies on the stack is what lay there before. */
    private static void resultOfInitIsDropped() {
        SiteSealer x = classes(-1, 0);
        init(x, 0, 10);
        init(x, 1, 11);
        x.field(1, 1, 0, 1);
        x.ref(0, true, 1, 1, 0);
        x.number(0, 6, false);
        Ops.main(x, 0, 1, Ops.PUSH, 2, Ops.PUSH, 2, Ops.PUTS, 1, Ops.OUT, 0, Ops.GETS, 1, Ops.RET, 0);
        run("PUTS behind an INIT", x, 0, 3000, 0, 4 + 4 + 6, "5:0 1:10 5:1 1:11 1:6");
        due.is("what was put", x.told(true, -4), 6);
    }

    /** "its instructions count as others, also if the one that needs it is not done any more". */
    private static void initThatFails() {
        SiteSealer x = classes(-1, -1);
        x.ref(1, true, 1, 1, 0);
        Ops.write(x, 1, x.method(1, 0, 0, 1, 0), Ops.LOAD, 0, Ops.OUT, 0, Ops.NULL, 0, Ops.GETF, 0, Ops.RET, 0);
        x.field(1, 1, 0, 0);
        Ops.main(x, 0, 1, Ops.LOAD, 0, Ops.POP, 0, Ops.NEW, 1, Ops.POP, 0, Ops.LOAD, 0, Ops.RET, 0);
        run("the instructions of an INIT that fails", x, 0, 3000, 2, 5, "5:0 5:1 1:0");
        run("the same, at the limit", x, 0, 5, 1, 5, "5:0 5:1 1:0");
    }

    /** "2 a string (its bytes, the first one lowest, 0 behind them; not its length), 3 .. (its class), 4 null (0)". */
    private static void logValues() {
        SiteSealer x = classes(-1, -1, -1, -1, -1, -1, -1, -1);
        x.string(0, -1, 0);
        x.string(0, -1, 1);
        x.string(0, -1, 8);
        x.string(0, 0x41, 1);
        x.string(0, 0x41, 2);
        x.number(0, Long.MIN_VALUE, true);
        Ops.main(x, 0, 1, Ops.PUSH, 0, Ops.SAY, 0, Ops.PUSH, 1, Ops.SAY, 0, Ops.PUSH, 2, Ops.SAY, 0, Ops.PUSH, 3, Ops.SAY, 0,
                Ops.PUSH, 4, Ops.SAY, 0, Ops.PUSH, 5, Ops.OUT, 0, Ops.NULL, 0, Ops.SAY, 0, Ops.NEW, 0, Ops.SAY, 0,
                Ops.NEW, 7, Ops.SAY, 0, Ops.LOAD, 0, Ops.RET, 0);
        run("rows", x, 0, 3000, 0, 20, "5:0 2:0 2:255 2:-1 2:65 2:65 1:" + Long.MIN_VALUE + " 4:0 3:0 5:7 3:7");
    }

    /** Numbers are longs: they go over the end, and LESS knows their sign. */
    private static void numbersWrapAround() {
        long[][] all = {{Long.MAX_VALUE, 1}, {Long.MIN_VALUE, 1}, {Long.MIN_VALUE, -1}, {Long.MAX_VALUE, Long.MAX_VALUE},
            {Long.MIN_VALUE, Long.MIN_VALUE}, {Long.MIN_VALUE, Long.MAX_VALUE}, {Long.MAX_VALUE, Long.MIN_VALUE}, {0, -1},
            {-1, 0}, {0, 0}, {1L << 32, 1L << 32}, {0xffffffffL, 0xffffffffL}};
        for (long[] p : all) {
            SiteSealer x = classes(-1);
            x.number(0, p[0], true);
            x.number(0, p[1], true);
            int m = x.method(0, 1, 0, 1, 0);
            for (int op = Ops.ADD; op <= Ops.LESS; op++) {
                Ops.write(x, 0, m, Ops.PUSH, 0, Ops.PUSH, 1, op, 0, Ops.OUT, 0);
            }
            Ops.write(x, 0, m, Ops.LOAD, 0, Ops.RET, 0);
            run(p[0] + " and " + p[1], x, 0, 3000, 0, 22, "5:0 1:" + (p[0] + p[1]) + " 1:" + (p[0] - p[1]) + " 1:"
                    + p[0] * p[1] + " 1:" + (p[0] ^ p[1]) + " 1:" + (p[0] < p[1] ? 1 : 0));
        }
        for (long v : new long[] {0, 1, -1, 1L << 32, Long.MIN_VALUE}) {
            SiteSealer x = classes(-1);
            x.number(0, v, true);
            Ops.main(x, 0, 1, Ops.PUSH, 0, Ops.ZERO, 4, Ops.PUSH, 0, Ops.OUT, 0, Ops.LOAD, 0, Ops.RET, 0);
            run("ZERO of " + v, x, 0, 3000, 0, v == 0 ? 4 : 6, v == 0 ? "5:0" : "5:0 1:" + v);
        }
    }

    /** "Strings of the same bytes are one": of whatever entry or class; a byte more makes another. */
    private static void stringsOfTheSameBytes() {
        SiteSealer x = classes(-1, -1);
        x.ref(0, false, 1, 5, 32);
        x.string(0, 0x41, 1);
        x.string(0, 0x4141, 1);
        x.string(0, 0x41, 2);
        x.string(0, 0x41, 8);
        x.string(0, 0, 0);
        x.string(0, 0, 1);
        x.string(1, 0xff41, 1);
        Ops.write(x, 1, x.method(1, 5, 32, 1, 0), Ops.PUSH, 0, Ops.RET, 0);
        int m = x.method(0, 1, 0, 1, 0);
        for (int j = 1; j <= 6; j++) {
            Ops.write(x, 0, m, Ops.PUSH, j, Ops.STATIC, 0, Ops.SAME, 0, Ops.OUT, 0);
        }
        Ops.write(x, 0, m, Ops.PUSH, 5, Ops.PUSH, 6, Ops.SAME, 0, Ops.OUT, 0, Ops.PUSH, 5, Ops.NULL, 0, Ops.SAME, 0, Ops.OUT, 0,
                Ops.LOAD, 0, Ops.RET, 0);
        run("strings", x, 0, 3000, 0, 6 * 6 + 10, "5:0 5:1 1:1 1:1 1:0 1:0 1:0 1:0 1:0 1:0");
    }

    /** "what goes from the stack .. and what comes onto it": a number below all that is there still. */
    private static void whatLiesBelowStays() {
        int[][] all = {{Ops.LOAD, 0, Ops.STORE, 1}, {Ops.LOAD, 0, Ops.LOAD, 0, Ops.ADD, 0, Ops.POP, 0},
            {Ops.NULL, 0, Ops.NULL, 0, Ops.SAME, 0, Ops.POP, 0}, {Ops.LOAD, 0, Ops.OUT, 0}, {Ops.NULL, 0, Ops.SAY, 0},
            {Ops.NULL, 0, Ops.POP, 0}, {Ops.LOAD, 0, Ops.DUP, 0, Ops.POP, 0, Ops.POP, 0},
            {Ops.LOAD, 0, Ops.LOAD, 0, Ops.STATIC, 1, Ops.POP, 0},
            {Ops.NEW, 0, Ops.LOAD, 0, Ops.LOAD, 0, Ops.VIRTUAL, 2, Ops.POP, 0}, {Ops.GETS, 3, Ops.PUTS, 3},
            {Ops.NEW, 0, Ops.GETF, 4, Ops.POP, 0}, {Ops.NEW, 0, Ops.LOAD, 0, Ops.PUTF, 4}};
        for (int i = 0; i < all.length; i++) {
            SiteSealer x = classes(-1);
            x.number(0, 77, false);
            x.ref(0, false, 0, 2, 2);
            x.ref(0, false, 0, 3, 2);
            x.ref(0, true, 0, 1, 0);
            x.ref(0, true, 0, 2, 0);
            x.field(0, 1, 0, 1);
            x.field(0, 2, 0, 0);
            method(x, 0, 2, 2, 1);
            method(x, 0, 3, 2, 0);
            int m = x.method(0, 1, 0, 1, 0);
            Ops.write(x, 0, m, Ops.PUSH, 0);
            Ops.write(x, 0, m, all[i]);
            Ops.write(x, 0, m, Ops.OUT, 0, Ops.LOAD, 0, Ops.RET, 0);
            due.is("code " + i, x.run(false, 0, 1, 0, 99), 0);
            due.is("the number below, behind code " + i, x.told(false, 2 * (int) x.told(false, -1) - 1), 77);
            x.seal(i);
            due.is("code " + i + ", sealed", x.run(true, 0, 1, 0, 99), 0);
            due.is("alike", x.alike(), true);
        }
    }

    /** An op so often. */
    private static void often(SiteSealer x, int method, int times, int op, int a) {
        for (int i = 0; i < times; i++) {
            x.op(0, method, op, a);
        }
    }

    /** "more than 8 come to be there": each of 16 methods within each other has eight, and all of that twice. */
    private static void eightOnEachStack() {
        SiteSealer x = classes(-1);
        x.number(0, 14, false);
        x.number(0, 1, false);
        x.ref(0, false, 0, 2, 1);
        int m = x.method(0, 2, 1, 1, 0);
        Ops.write(x, 0, m, Ops.LOAD, 0, Ops.ZERO, 19);
        often(x, m, 6, Ops.PUSH, 1);
        Ops.write(x, 0, m, Ops.LOAD, 0, Ops.PUSH, 1, Ops.SUB, 0, Ops.STATIC, 2);
        often(x, m, 6, Ops.ADD, 0);
        x.op(0, m, Ops.RET, 0);
        often(x, m, 8, Ops.PUSH, 1);
        often(x, m, 7, Ops.ADD, 0);
        x.op(0, m, Ops.RET, 0);
        int main = x.method(0, 1, 0, 1, 0);
        for (int i = 0; i < 2; i++) {
            often(x, main, 7, Ops.PUSH, 1);
            Ops.write(x, 0, main, Ops.PUSH, 0, Ops.STATIC, 2);
            often(x, main, 7, Ops.ADD, 0);
            x.op(0, main, i == 0 ? Ops.OUT : Ops.RET, 0);
        }
        run("eight on each", x, 0, 3000, 0, 34 + 2 * (14 * 19 + 18), "5:0 1:99");
        due.is("the same twice", x.told(true, -4), 99);
    }

    /** "LOCALS 0 .. 7 ..; at first they have 0, or null": in each call anew, also where another had its own. */
    private static void localsAtFirst() {
        SiteSealer x = classes(-1);
        x.ref(0, false, 0, 2, 0);
        x.number(0, 9, false);
        x.string(0, 1, 1);
        Ops.write(x, 0, x.method(0, 2, 0, 1, 128), Ops.LOAD, 0, Ops.OUT, 0, Ops.LOAD, 7, Ops.SAY, 0, Ops.PUSH, 1, Ops.STORE, 0,
                Ops.PUSH, 2, Ops.STORE, 7, Ops.LOAD, 0, Ops.RET, 0);
        Ops.write(x, 0, x.method(0, 1, 0, 1, 128), Ops.STATIC, 0, Ops.STORE, 0, Ops.STATIC, 0, Ops.OUT, 0, Ops.LOAD, 0, Ops.OUT, 0,
                Ops.LOAD, 7, Ops.SAY, 0, Ops.LOAD, 1, Ops.RET, 0);
        run("locals", x, 0, 3000, 0, 10 + 2 * 10, "5:0 1:0 4:0 1:0 4:0 1:9 1:9 4:0");
        SiteSealer y = classes(-1);
        y.ref(0, false, 0, 2, 3 + 8);
        y.number(0, 5, false);
        y.number(0, 6, false);
        y.string(0, 0x61, 1);
        Ops.write(y, 0, y.method(0, 2, 3 + 8, 0, 128), Ops.LOAD, 0, Ops.SAY, 0, Ops.LOAD, 1, Ops.OUT, 0, Ops.LOAD, 2, Ops.SAY, 0,
                Ops.LOAD, 3, Ops.OUT, 0, Ops.LOAD, 4, Ops.OUT, 0, Ops.LOAD, 7, Ops.SAY, 0, Ops.LOAD, 6, Ops.RET, 0);
        Ops.main(y, 0, 1, Ops.NEW, 0, Ops.PUSH, 1, Ops.PUSH, 3, Ops.PUSH, 2, Ops.VIRTUAL, 0, Ops.RET, 0);
        run("receiver and arguments", y, 0, 3000, 0, 6 + 14, "5:0 3:0 1:5 2:97 1:6 1:0 4:0");
    }

    /** The first local behind the arguments, where something was on the stack above them before. */
    private static void localBehindArguments() {
        SiteSealer x = classes(-1);
        x.ref(0, false, 0, 2, 1);
        x.number(0, 9, false);
        x.string(0, 1, 1);
        Ops.write(x, 0, x.method(0, 2, 1, 1, 4), Ops.LOAD, 1, Ops.OUT, 0, Ops.LOAD, 2, Ops.SAY, 0, Ops.LOAD, 0, Ops.RET, 0);
        Ops.main(x, 0, 1, Ops.PUSH, 1, Ops.PUSH, 1, Ops.PUSH, 2, Ops.SAY, 0, Ops.OUT, 0, Ops.STATIC, 0, Ops.RET, 0);
        run("behind the arguments", x, 0, 3000, 0, 13, "5:0 2:1 1:9 1:0 4:0");
    }

    /** "Fields of an object are 0 or null at first": also those of the last of six, and static ones. */
    private static void fieldsAtFirst() {
        SiteSealer x = classes(-1);
        for (int f = 0; f < 6; f++) {
            x.field(0, 1 + f / 2, f % 2, f / 2 == 0 ? 1 : 0);
            x.ref(0, true, 0, 1 + f / 2, f % 2);
        }
        x.number(0, 7, false);
        x.method(0, 1, 0, 1, 2);
        Ops.write(x, 0, 0, Ops.GETS, 0, Ops.OUT, 0, Ops.GETS, 1, Ops.SAY, 0, Ops.NEW, 0, Ops.STORE, 1);
        for (int f = 2; f < 6; f++) {
            Ops.write(x, 0, 0, Ops.LOAD, 1, Ops.GETF, f, f % 2 == 0 ? Ops.OUT : Ops.SAY, 0);
        }
        Ops.write(x, 0, 0, Ops.LOAD, 1, Ops.PUSH, 6, Ops.PUTF, 4, Ops.LOAD, 1, Ops.LOAD, 1, Ops.PUTF, 5,
                Ops.NEW, 0, Ops.GETF, 4, Ops.OUT, 0, Ops.LOAD, 1, Ops.GETF, 4, Ops.OUT, 0, Ops.NEW, 0, Ops.GETF, 5, Ops.SAY, 0,
                Ops.LOAD, 0, Ops.RET, 0);
        run("fields", x, 0, 3000, 0, 35, "5:0 1:0 4:0 1:0 4:0 1:0 4:0 1:0 1:7 4:0");
    }

    /** Eight classes of six fields each: the last one, static, and of the 40th object. */
    private static void lastFieldOfLastClass() {
        SiteSealer x = classes(-1, 0, 1, 2, 3, 4, 5, 6);
        for (int c = 0; c < 8; c++) {
            for (int f = 0; f < 6; f++) {
                x.field(c, 1 + f, 0, f == 4 ? 1 : 0);
            }
        }
        x.number(0, 9, false);
        x.ref(0, true, 7, 5, 0);
        x.ref(0, true, 7, 6, 0);
        x.ref(0, true, 6, 5, 0);
        int m = x.method(0, 1, 0, 1, 2);
        Ops.write(x, 0, m, Ops.PUSH, 0, Ops.PUTS, 1, Ops.GETS, 1, Ops.OUT, 0, Ops.GETS, 3, Ops.OUT, 0, Ops.NEW, 7, Ops.STORE, 1,
                Ops.PUSH, 0, Ops.STORE, 0, Ops.LOAD, 1, Ops.LOAD, 0, Ops.PUTF, 2, Ops.LOAD, 1, Ops.GETF, 2, Ops.OUT, 0,
                Ops.NEW, 7, Ops.GETF, 2, Ops.OUT, 0, Ops.LOAD, 2, Ops.RET, 0);
        run("the last field", x, 0, 3000, 0, 21, "5:0 5:1 5:2 5:3 5:4 5:5 5:6 5:7 1:9 1:0 1:9 1:0");
        SiteSealer y = classes(-1, 0, 1, 2, 3, 4, 5, 6);
        for (int f = 0; f < 6; f++) {
            y.field(7, 1 + f, 0, 0);
        }
        y.number(0, 40, false);
        y.number(0, 1, false);
        y.ref(0, true, 7, 6, 0);
        Ops.write(y, 0, y.method(0, 1, 0, 1, 2), Ops.PUSH, 0, Ops.STORE, 0, Ops.NEW, 7, Ops.STORE, 1,
                Ops.LOAD, 1, Ops.LOAD, 0, Ops.PUTF, 2, Ops.LOAD, 1, Ops.GETF, 2, Ops.OUT, 0,
                Ops.LOAD, 0, Ops.PUSH, 1, Ops.SUB, 0, Ops.DUP, 0, Ops.STORE, 0, Ops.ZERO, 17, Ops.GOTO, 2,
                Ops.LOAD, 1, Ops.GETF, 2, Ops.RET, 0);
        due.is("40 objects", y.run(false, 0, 1, 0, 3000), 0);
        due.is("of the 40th", y.told(false, -4), 1);
        due.is("rows", y.told(false, -1), 48);
    }

    /** All eight classes in one line: what is found, initialised, and fits at its other end. */
    private static void linesOfEight() {
        for (int op : FOUND_OPS) {
            SiteSealer x = classes(-1, 0, 1, 2, 3, 4, 5, 6);
            member(x, op, 0, 5, 0, wantsStatic(op) ? 1 : 0);
            asked(x, 7, op, 7, 5, Ops.NEW, 7);
            due.is("found in the topmost, op " + op, x.run(false, 7, 1, 0, 99), 0);
            due.text("all are initialised", Ops.rows(x, false), "5:0 5:1 5:2 5:3 5:4 5:5 5:6 5:7");
            x.seal(op);
            due.is("sealed, op " + op, x.run(true, 7, 1, 0, 99), 0);
            due.is("alike", x.alike(), true);
        }
    }

    /** As many instructions as a run may have, and all classes initialised, with INITs or without. */
    private static void eightClassesAnd3000Steps() {
        for (int inits = 0; inits <= 8; inits += 8) {
            SiteSealer x = classes(-1, 0, 1, 2, 3, 4, 5, 6);
            for (int c = 0; c < inits; c++) {
                method(x, c, 0, 0, 1);
            }
            Ops.main(x, 7, 1, Ops.GOTO, 0);
            run("without an end, " + inits + " INITs", x, 7, 3000, 1, 3000, "5:0 5:1 5:2 5:3 5:4 5:5 5:6 5:7");
        }
    }

    /** "runs, from the beginning of all": nothing of an earlier run is there, of the same or the other one. */
    private static void fromTheBeginningOfAll() {
        SiteSealer x = classes(-1, -1);
        x.field(0, 1, 0, 1);
        x.field(0, 1, 1, 1);
        x.field(1, 2, 0, 0);
        x.ref(0, true, 0, 1, 0);
        x.ref(0, true, 0, 1, 1);
        x.ref(0, true, 1, 2, 0);
        x.number(0, 3, false);
        Ops.write(x, 0, x.method(0, 1, 0, 1, 0), Ops.GETS, 0, Ops.OUT, 0, Ops.GETS, 1, Ops.SAY, 0, Ops.NEW, 1, Ops.DUP, 0,
                Ops.PUTS, 1, Ops.DUP, 0, Ops.GETF, 2, Ops.OUT, 0, Ops.PUSH, 3, Ops.PUTF, 2, Ops.PUSH, 3, Ops.PUTS, 0,
                Ops.GETS, 0, Ops.RET, 0);
        for (int i = 0; i < 3; i++) {
            run("anew", x, 0, 3000, 0, 16, "5:0 1:0 4:0 5:1 1:0");
        }
        SiteSealer y = objects(40, 0);
        for (int i = 0; i < 3; i++) {
            run("40 objects in each run", y, 0, 3000, 0, 2 + 40 * 9 + 4, "5:0");
        }
        due.fails("a run that is refused", BOUNDS, () -> y.run(false, 0, 1, 0, 3001));
        due.fails("another", STATE, () -> classes(-1).run(true, 0, 1, 0, 1));
        due.is("the latest one stays told", y.told(false, -3), 2 + 40 * 9 + 4);
    }
}
