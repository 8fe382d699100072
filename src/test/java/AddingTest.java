import java.util.NoSuchElementException;

/** Promises 1 to 8: what can be added, its bounds, and which exception comes first. */
public final class AddingTest {
    private static final Class<NoSuchElementException> NONE = NoSuchElementException.class;
    private static final Class<IllegalArgumentException> BOUNDS = IllegalArgumentException.class;
    private static final Class<IllegalStateException> STATE = IllegalStateException.class;
    private static final Class<UnsupportedOperationException> FULL = UnsupportedOperationException.class;
    private static final Due due = new Due("AddingTest");

    public static void main(String[] args) {
        newObject();
        types();
        fields();
        methods();
        numbers();
        strings();
        refs();
        ops();
        addingTakesCopyAway();
        due.end();
    }

    private static void newObject() {
        SiteSealer x = new SiteSealer();
        due.fails("pool(false, 0)", NONE, () -> x.pool(false, 0));
        due.fails("pool(true, 0)", STATE, () -> x.pool(true, 0));
        due.is("left()", x.left(), 0);
        due.is("told(false, -1)", x.told(false, -1), 0);
        due.is("alike()", x.alike(), false);
        due.is("seal(0)", x.seal(0), 0);
        due.fails("run(false, 0, 1, 0, 0)", NONE, () -> x.run(false, 0, 1, 0, 0));
    }

    private static void types() {
        SiteSealer x = new SiteSealer();
        due.fails("type(0)", BOUNDS, () -> x.type(0));
        due.fails("type(-2)", BOUNDS, () -> x.type(-2));
        due.is("type(-1)", x.type(-1), 0);
        for (int c = 1; c < 8; c++) {
            due.is("type", x.type(c - 1), c);
        }
        due.fails("a ninth of a wrong super", BOUNDS, () -> x.type(8));
        due.fails("a ninth of no super", FULL, () -> x.type(-1));
        due.fails("a ninth of a super", FULL, () -> x.type(7));
        due.is("pool of 7", x.pool(false, 7), 0);
    }

    private static void fields() {
        SiteSealer x = new SiteSealer();
        due.fails("no class, wrong name", NONE, () -> x.field(0, 0, 0, 0));
        x.type(-1);
        x.type(0);
        due.fails("class -1", NONE, () -> x.field(-1, 1, 0, 0));
        int[][] outside = {{0, 0, 0}, {32, 0, 0}, {-1, 0, 0}, {1, 2, 0}, {1, -1, 0}, {1, 0, 8}, {1, 0, -1}};
        for (int[] o : outside) {
            due.fails("field outside", BOUNDS, () -> x.field(0, o[0], o[1], o[2]));
        }
        due.is("field 1 0 7", x.field(0, 1, 0, 7), 0);
        due.is("field 31 1 0", x.field(0, 31, 1, 0), 1);
        due.is("field 1 1 0", x.field(0, 1, 1, 0), 2);
        due.fails("field 1 0 0 again", STATE, () -> x.field(0, 1, 0, 0));
        due.is("the same in another class", x.field(1, 1, 0, 0), 0);
        for (int i = 3; i < 6; i++) {
            due.is("field", x.field(0, i, 0, 0), i);
        }
        due.fails("a seventh, wrong flags", BOUNDS, () -> x.field(0, 20, 0, 8));
        due.fails("a seventh, there already", STATE, () -> x.field(0, 1, 0, 0));
        due.fails("a seventh", FULL, () -> x.field(0, 20, 0, 0));
    }

    private static void methods() {
        SiteSealer x = new SiteSealer();
        due.fails("no class, wrong name", NONE, () -> x.method(0, 32, 0, 0, 0));
        x.type(-1);
        int[][] outside = {{-1, 0, 1, 0}, {32, 0, 1, 0}, {1, -1, 1, 0}, {1, 64, 1, 0}, {1, 0, 2, 0}, {1, 0, 3, 0},
            {1, 0, 6, 0}, {1, 0, 7, 0}, {1, 0, 8, 0}, {1, 0, -1, 0}, {1, 0, 1, -1}, {1, 0, 1, 256},
            {0, 1, 1, 0}, {0, 32, 1, 0}, {0, 4, 5, 0}, {0, 0, 0, 0}, {0, 0, 4, 0}};
        for (int[] o : outside) {
            due.fails("method outside", BOUNDS, () -> x.method(0, o[0], o[1], o[2], o[3]));
        }
        due.is("INIT", x.method(0, 0, 0, 5, 255), 0);
        due.fails("INIT again", STATE, () -> x.method(0, 0, 0, 1, 0));
        due.is("method 31 63 0", x.method(0, 31, 63, 0, 0), 1);
        due.is("method 31 62 4", x.method(0, 31, 62, 4, 0), 2);
        due.is("method 30 63 1", x.method(0, 30, 63, 1, 0), 3);
        due.fails("method 30 63 0", STATE, () -> x.method(0, 30, 63, 0, 9));
        due.is("method 1", x.method(0, 1, 0, 1, 0), 4);
        due.is("method 2", x.method(0, 2, 0, 1, 0), 5);
        due.fails("a seventh, wrong locals", BOUNDS, () -> x.method(0, 3, 0, 1, 256));
        due.fails("a seventh, there already", STATE, () -> x.method(0, 2, 0, 1, 0));
        due.fails("a seventh", FULL, () -> x.method(0, 3, 0, 1, 0));
        due.fails("code of it", NONE, () -> x.code(false, 0, 5, 0, 0));
    }

    private static void numbers() {
        SiteSealer x = new SiteSealer();
        due.fails("no class", NONE, () -> x.number(0, 0, true));
        x.type(-1);
        long[] values = {0, -1, 0x80000000L, 0x7fffffffL, 0x123456789abcdefL, Long.MIN_VALUE};
        for (int i = 0; i < values.length; i++) {
            due.is("wide", x.number(0, values[i], true), 2 * i);
            due.is("narrow", x.number(0, values[i], false), 2 * i + 1);
            due.is("wide sort", x.entry(false, 0, 2 * i, 0), 2);
            due.is("wide value", x.entry(false, 0, 2 * i, 1), values[i]);
            due.is("narrow sort", x.entry(false, 0, 2 * i + 1, 0), 1);
            due.is("narrow value", x.entry(false, 0, 2 * i + 1, 1), (int) values[i]);
            due.is("length", x.entry(false, 0, 2 * i + 1, 2), 0);
        }
        for (int i = 12; i < 32; i++) {
            due.is("place", x.number(0, i, false), i);
        }
        due.fails("a 33rd number", FULL, () -> x.number(0, 0, false));
        due.fails("a 33rd, of no class", NONE, () -> x.number(1, 0, false));
        due.fails("a 33rd string", FULL, () -> x.string(0, 0, 0));
        due.fails("a 33rd string, too long", BOUNDS, () -> x.string(0, 0, 9));
        due.fails("a 33rd ref", FULL, () -> x.ref(0, false, 0, 0, 0));
        due.fails("a 33rd ref, wrong", BOUNDS, () -> x.ref(0, false, 0, 0, 64));
        due.is("pool", x.pool(false, 0), 32);
    }

    private static void strings() {
        SiteSealer x = new SiteSealer();
        due.fails("no class, wrong length", NONE, () -> x.string(0, 0, 9));
        x.type(-1);
        due.fails("length -1", BOUNDS, () -> x.string(0, 0, -1));
        due.fails("length 9", BOUNDS, () -> x.string(0, 0, 9));
        long[] masks = {0, 0xffL, 0xffffL, 0xffffffL, 0xffffffffL, 0xffffffffffL, 0xffffffffffffL, 0xffffffffffffffL,
            -1L};
        for (int n = 0; n <= 8; n++) {
            due.is("place", x.string(0, 0xfedcba9876543281L, n), n);
            due.is("sort", x.entry(false, 0, n, 0), 3);
            due.is("bytes", x.entry(false, 0, n, 1), 0xfedcba9876543281L & masks[n]);
            due.is("length", x.entry(false, 0, n, 2), n);
        }
    }

    private static void refs() {
        SiteSealer x = new SiteSealer();
        due.fails("no class", NONE, () -> x.ref(0, true, 0, 1, 0));
        x.type(-1);
        x.type(0);
        due.fails("no owner, wrong name", NONE, () -> x.ref(0, true, 2, 32, 0));
        due.fails("owner -1", NONE, () -> x.ref(0, true, -1, 1, 0));
        int[][] outside = {{1, 32, 0}, {1, -1, 0}, {1, 1, 2}, {1, 1, -1}, {0, 32, 0}, {0, -1, 0}, {0, 1, 64}, {0, 1, -1}};
        for (int[] o : outside) {
            due.fails("ref outside", BOUNDS, () -> x.ref(0, o[0] == 1, 0, o[1], o[2]));
        }
        due.is("a field, name 0", x.ref(0, true, 1, 0, 1), 0);
        due.is("a method 63", x.ref(0, false, 1, 31, 63), 1);
        due.is("sort", x.entry(false, 0, 0, 0), 5);
        due.is("what", x.entry(false, 0, 0, 1), 1 + 65536);
        due.is("sort", x.entry(false, 0, 1, 0), 4);
        due.is("what", x.entry(false, 0, 1, 1), 1 + 256 * 31 + 65536 * 63);
        due.is("length", x.entry(false, 0, 1, 2), 0);
    }

    private static void ops() {
        SiteSealer x = new SiteSealer();
        due.fails("no class, wrong op", NONE, () -> x.op(0, 0, 24, 0));
        x.type(-1);
        due.fails("no method, wrong op", NONE, () -> x.op(0, 0, 24, 0));
        x.method(0, 1, 0, 1, 0);
        due.fails("method -1", NONE, () -> x.op(0, -1, 0, 0));
        due.fails("op -1", BOUNDS, () -> x.op(0, 0, -1, 0));
        due.fails("op 24", BOUNDS, () -> x.op(0, 0, 24, 0));
        for (int i = 0; i < 40; i++) {
            due.is("op", x.op(0, 0, i % 24, Integer.MIN_VALUE + i), i);
        }
        due.fails("a 41st, wrong op", BOUNDS, () -> x.op(0, 0, 25, 0));
        due.fails("a 41st", FULL, () -> x.op(0, 0, 0, 0));
        due.is("op of 27", x.code(false, 0, 0, 27, 0), 3);
        due.is("a of 27", x.code(false, 0, 0, 27, 1), Integer.MIN_VALUE + 27);
    }

    private interface Adding {
        void to(SiteSealer x);
    }

    private static void addingTakesCopyAway() {
        Adding[] all = {x -> x.type(-1), x -> x.field(0, 1, 0, 0), x -> x.method(0, 9, 0, 1, 0),
            x -> x.number(0, 1, true), x -> x.string(0, 1, 1), x -> x.ref(0, true, 0, 1, 0),
            x -> x.op(0, 0, Ops.GOTO, 0)};
        for (Adding adding : all) {
            SiteSealer x = sealedAndRun();
            adding.to(x);
            due.fails("pool of the copy", STATE, () -> x.pool(true, 0));
            due.is("left", x.left(), 0);
            due.fails("leftAt", NONE, () -> x.leftAt(0, 0));
            due.is("rows of the copy", x.told(true, -1), 0);
            due.fails("status of the copy", IndexOutOfBoundsException.class, () -> x.told(true, -2));
            due.is("status of the classes stays", x.told(false, -2), 0);
            due.is("rows of the classes stay", x.told(false, -1), 1);
            due.is("alike", x.alike(), false);
        }
        SiteSealer x = sealedAndRun();
        due.fails("a wrong field", BOUNDS, () -> x.field(0, 0, 0, 0));
        due.is("a call that throws takes nothing away", x.alike(), true);
        due.is("left", x.left(), 1);
        x.seal(2);
        due.is("sealing anew does", x.told(true, -1), 0);
        due.is("alike", x.alike(), false);
        due.is("left", x.left(), 1);
    }

    private static SiteSealer sealedAndRun() {
        SiteSealer x = new SiteSealer();
        x.type(-1);
        x.number(0, 7, false);
        x.ref(0, false, 0, 0, 0);
        Ops.main(x, 0, 1, Ops.PUSH, 0, Ops.RET, 0, Ops.STATIC, 1, Ops.RET, 0);
        due.is("seal", x.seal(1), 1);
        due.is("run", x.run(false, 0, 1, 0, 9), 0);
        due.is("sealed run", x.run(true, 0, 1, 0, 9), 0);
        due.is("alike", x.alike(), true);
        return x;
    }
}
