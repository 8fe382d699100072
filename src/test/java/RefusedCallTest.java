import java.util.ArrayList;
import java.util.List;
import java.util.function.Supplier;

/** "A call that throws changes nothing": every refusal of every call, against an object that never heard of it. */
public final class RefusedCallTest {
    private static final Due due = new Due("RefusedCallTest");

    private interface Refused {
        long of(SiteSealer x);
    }

    public static void main(String[] args) {
        for (Refused call : onAny()) {
            check("on an empty object", SiteSealer::new, call);
            check("on one that is sealed and run", RefusedCallTest::sealedAndRun, call);
        }
        for (Refused call : onFull()) {
            check("on a full one", RefusedCallTest::full, call);
        }
        for (Refused call : onUsed()) {
            check("on one that is sealed and run", RefusedCallTest::sealedAndRun, call);
        }
        for (Refused call : onWrong()) {
            check("on one with a wrong method", RefusedCallTest::withWrongMethod, call);
        }
        due.end();
    }

    private static void check(String what, Supplier<SiteSealer> maker, Refused call) {
        SiteSealer x = maker.get();
        due.is(what + ": the call is refused", isRefused(x, call), true);
        due.text(what + ": what is seen then", Seen.now(x), Seen.now(maker.get()));
        SiteSealer y = maker.get();
        isRefused(y, call);
        due.text(what + ": what is seen later", Seen.later(y), Seen.later(maker.get()));
    }

    private static boolean isRefused(SiteSealer x, Refused call) {
        try {
            call.of(x);
            return false;
        } catch (RuntimeException e) {
            return true;
        }
    }

    /** Classes whose members all take part in runs, sealed, with a site left, and run both ways. */
    private static SiteSealer sealedAndRun() {
        SiteSealer x = new SiteSealer();
        x.type(-1);
        x.type(0);
        x.field(0, 1, 0, 1);
        x.field(0, 2, 0, 2);
        x.number(0, 5, false);
        x.string(0, 0x41, 1);
        x.ref(0, true, 0, 1, 0);
        x.ref(0, true, 1, 2, 0);
        x.ref(0, false, 1, 2, 1);
        x.number(1, 6, true);
        Ops.write(x, 0, x.method(0, 1, 0, 1, 0), Ops.PUSH, 0, Ops.PUTS, 2, Ops.NEW, 1, Ops.DUP, 0, Ops.PUSH, 0, Ops.PUTF, 3,
                Ops.GETS, 2, Ops.VIRTUAL, 4, Ops.OUT, 0, Ops.PUSH, 1, Ops.SAY, 0, Ops.LOAD, 7, Ops.RET, 0);
        Ops.write(x, 0, x.method(0, 2, 1, 0, 0), Ops.LOAD, 0, Ops.GETF, 3, Ops.LOAD, 1, Ops.ADD, 0, Ops.RET, 0);
        Ops.write(x, 1, x.method(1, 0, 0, 1, 0), Ops.PUSH, 0, Ops.OUT, 0, Ops.PUSH, 0, Ops.RET, 0);
        x.seal(3);
        x.run(false, 0, 1, 0, 99);
        x.run(true, 0, 1, 0, 99);
        due.is("it ends, alike, and has something left", x.told(true, -2) == 0 && x.alike() && x.left() == 1, true);
        return x;
    }

    /** Eight classes, of which class 0 has all that it may have; sealed and run. */
    private static SiteSealer full() {
        SiteSealer x = new SiteSealer();
        for (int c = 0; c < 8; c++) {
            x.type(-1);
        }
        for (int j = 0; j < 32; j++) {
            x.number(0, j, j % 2 == 0);
        }
        for (int i = 0; i < 6; i++) {
            x.field(0, 1 + i, 0, 0);
            x.method(0, 1 + i, 0, 1, 0);
            x.op(0, i, i == 0 ? Ops.NULL : Ops.GOTO, 0);
        }
        for (int i = 1; i < 38; i++) {
            x.op(0, 0, i % 2 == 1 ? Ops.POP : Ops.NULL, 0);
        }
        Ops.write(x, 0, 0, Ops.PUSH, 31, Ops.RET, 0);
        x.seal(3);
        x.run(false, 0, 1, 0, 99);
        x.run(true, 0, 1, 0, 99);
        due.is("it ends, alike", x.told(true, -2) == 0 && x.alike(), true);
        return x;
    }

    private static SiteSealer withWrongMethod() {
        SiteSealer x = sealedAndRun();
        x.method(1, 1, 0, 1, 0);
        x.op(1, 1, Ops.OUT, 0);
        return x;
    }

    /** What is refused in any state: there is no such class, and so on. */
    private static List<Refused> onAny() {
        List<Refused> all = new ArrayList<>();
        for (int far : new int[] {-2, 8, Integer.MIN_VALUE, Integer.MAX_VALUE}) {
            all.add(x -> x.type(far));
            all.add(x -> x.field(far, 1, 0, 0));
            all.add(x -> x.method(far, 3, 0, 1, 0));
            all.add(x -> x.number(far, 1, true));
            all.add(x -> x.string(far, 1, 1));
            all.add(x -> x.ref(far, true, 0, 1, 0));
            all.add(x -> x.ref(0, true, far, 1, 0));
            all.add(x -> x.op(far, 0, 1, 0));
            all.add(x -> x.op(0, far, 1, 0));
            all.add(x -> x.wrong(false, far, 0));
            all.add(x -> x.wrong(true, far, 0));
            all.add(x -> x.leftAt(far, 0));
            all.add(x -> x.pool(false, far));
            all.add(x -> x.pool(true, far));
            all.add(x -> x.entry(false, far, 0, 0));
            all.add(x -> x.entry(true, 0, far == 8 ? 32 : far, 0));
            all.add(x -> x.code(false, 0, 0, far == 8 ? 40 : far, 0));
            all.add(x -> x.code(true, far, 0, 0, 0));
            all.add(x -> x.run(false, far, 1, 0, 9));
            all.add(x -> x.run(true, far, 1, 0, 9));
            all.add(x -> x.run(false, 0, far, 0, 9));
            all.add(x -> x.told(false, far == 8 ? 600 : far == -2 ? -5 : far));
            all.add(x -> x.told(true, far == 8 ? 600 : far == -2 ? -5 : far));
        }
        return all;
    }

    private static List<Refused> onFull() {
        return List.of(x -> x.type(-1), x -> x.type(7), x -> x.type(8), x -> x.field(0, 9, 0, 2), x -> x.field(0, 1, 0, 1),
                x -> x.field(0, 1, 0, 9), x -> x.method(0, 9, 0, 1, 0), x -> x.method(0, 1, 0, 0, 255),
                x -> x.method(0, 1, 0, 2, 0), x -> x.method(0, 0, 0, 1, 0), x -> x.number(0, 99, true),
                x -> x.number(0, 99, false), x -> x.string(0, 99, 8), x -> x.string(0, 99, 9),
                x -> x.ref(0, false, 0, 1, 0), x -> x.ref(0, true, 0, 1, 0), x -> x.ref(0, true, 0, 1, 2),
                x -> x.op(0, 0, Ops.GOTO, 0), x -> x.op(0, 0, Ops.OPEN, 0), x -> x.entry(true, 0, 32, 0),
                x -> x.code(true, 0, 0, 40, 0), x -> x.wrong(true, 0, 6), x -> x.run(false, 0, 1, 0, 3001));
    }

    private static List<Refused> onUsed() {
        return List.of(x -> x.type(2), x -> x.field(0, 1, 0, 3), x -> x.field(0, 2, 0, 0), x -> x.field(0, 0, 0, 0),
                x -> x.field(0, 3, 2, 0), x -> x.field(0, 3, 0, 8), x -> x.method(0, 1, 0, 0, 9), x -> x.method(0, 2, 1, 4, 0),
                x -> x.method(1, 0, 0, 5, 0), x -> x.method(0, 0, 1, 1, 0), x -> x.method(0, 0, 0, 0, 0),
                x -> x.method(0, 3, 64, 1, 0), x -> x.method(0, 3, 0, 2, 0), x -> x.method(0, 3, 0, 1, 256),
                x -> x.string(0, 1, 9), x -> x.string(0, 1, -1), x -> x.ref(0, false, 0, 32, 0), x -> x.ref(0, true, 0, 1, 2),
                x -> x.ref(0, false, 2, 1, 0), x -> x.op(0, 0, 24, 0), x -> x.op(0, 0, -1, 0), x -> x.op(0, 2, 0, 0),
                x -> x.wrong(true, 0, 2), x -> x.leftAt(1, 0), x -> x.leftAt(0, 4), x -> x.entry(true, 0, 0, 3),
                x -> x.code(true, 0, 0, 0, 2), x -> x.run(true, 1, 0, 0, 9), x -> x.run(true, 0, 2, 1, 9),
                x -> x.run(false, 0, 2, 0, 9), x -> x.run(true, 0, 1, 0, -1), x -> x.run(false, 0, 1, 0, 3001),
                x -> x.told(true, -5), x -> x.told(false, 2 * (int) x.told(false, -1)));
    }

    private static List<Refused> onWrong() {
        return List.of(x -> x.seal(4), x -> x.run(false, 0, 1, 0, 9), x -> x.run(true, 0, 1, 0, 9), x -> x.wrong(true, 0, 0),
                x -> x.pool(true, 0), x -> x.entry(true, 0, 0, 0), x -> x.code(true, 0, 0, 0, 0), x -> x.leftAt(0, 0),
                x -> x.told(true, -2));
    }
}
