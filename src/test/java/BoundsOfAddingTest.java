import java.util.NoSuchElementException;

/** The sentences that name a boundary of what can be added: Terms, and promises 1 to 8. */
public final class BoundsOfAddingTest {
    private static final Class<NoSuchElementException> NONE = NoSuchElementException.class;
    private static final Class<IllegalArgumentException> BOUNDS = IllegalArgumentException.class;
    private static final Class<IllegalStateException> STATE = IllegalStateException.class;
    private static final Class<UnsupportedOperationException> FULL = UnsupportedOperationException.class;
    private static final int[] FAR = {Integer.MIN_VALUE, Integer.MAX_VALUE};
    private static final Due due = new Due("BoundsOfAddingTest");

    public static void main(String[] args) {
        noClassesAtFirst();
        eightClasses();
        superIsNoneOrEarlier();
        lineOfEight();
        poolOf32();
        eachPoolHasItsOwn32();
        sixFields();
        namesKindsAndFlagsOfFields();
        oneFieldOfNameAndKind();
        sixMethods();
        namesShapesAndLocalsOfMethods();
        flagsOfMethods();
        methodNull();
        oneMethodOfNameAndShape();
        numbersOf32Bits();
        numbersOf64Bits();
        stringsOfNoneToEightBytes();
        namesAndShapesOfRefs();
        ownersOfRefs();
        fortyInstructions();
        opsFrom0To23();
        anyNumberIsKept();
        noSuchClassOrMethod();
        due.end();
    }

    private static SiteSealer classes(int count) {
        SiteSealer x = new SiteSealer();
        for (int c = 0; c < count; c++) {
            x.type(-1);
        }
        return x;
    }

    /** "No classes." */
    private static void noClassesAtFirst() {
        SiteSealer x = new SiteSealer();
        due.fails("pool of class 0", NONE, () -> x.pool(false, 0));
        due.fails("a super that is there", BOUNDS, () -> x.type(0));
        due.fails("wrong of class 0", NONE, () -> x.wrong(false, 0, 0));
        due.is("left", x.left(), 0);
        due.fails("leftAt", NONE, () -> x.leftAt(0, 0));
        due.is("alike", x.alike(), false);
        due.is("seal of none", x.seal(1), 0);
        due.fails("pool of class 0 in the copy of none", NONE, () -> x.pool(true, 0));
        due.fails("run in the copy of none", NONE, () -> x.run(true, 0, 1, 0, 0));
    }

    /** "CLASSES are 0, 1, .. (8 at most)"; "UnsupportedOperationException when there are 8". */
    private static void eightClasses() {
        SiteSealer x = new SiteSealer();
        for (int c = 0; c < 8; c++) {
            int c0 = c;
            due.fails("class " + c + " is none yet", NONE, () -> x.pool(false, c0));
            due.is("class", x.type(-1), c);
            due.is("class " + c + " is one", x.pool(false, c), 0);
        }
        for (int parent = -1; parent < 8; parent++) {
            int parent0 = parent;
            due.fails("a ninth class, below " + parent, FULL, () -> x.type(parent0));
        }
        due.fails("class 8 is none", NONE, () -> x.pool(false, 8));
    }

    /** "IllegalArgumentException when parent is neither -1 nor a class". */
    private static void superIsNoneOrEarlier() {
        SiteSealer x = new SiteSealer();
        for (int c = 0; c < 8; c++) {
            for (int parent : new int[] {c, c + 1, -2, FAR[0], FAR[1]}) {
                due.fails("class " + c + " below " + parent, BOUNDS, () -> x.type(parent));
            }
            due.is("class " + c + " below the one before it", x.type(c - 1), c);
        }
        due.fails("class 8 below itself", BOUNDS, () -> x.type(8));
    }

    /** "a class and its super, that one's super, and so on are its LINE": as long as there are classes. */
    private static void lineOfEight() {
        SiteSealer x = new SiteSealer();
        for (int c = 0; c < 8; c++) {
            x.type(c - 1);
        }
        Ops.main(x, 0, 1, Ops.NEW, 7, Ops.SAY, 0, Ops.LOAD, 0, Ops.RET, 0);
        due.is("found seven classes above", x.run(false, 7, 1, 0, 9), 0);
        due.text("all are initialised", Ops.rows(x, false), "5:0 5:1 5:2 5:3 5:4 5:5 5:6 5:7 3:7");
    }

    private interface Adding {
        int to(SiteSealer x, int type);
    }

    private static final Adding[] ENTRIES = {(x, c) -> x.number(c, 1, false), (x, c) -> x.number(c, 1, true),
        (x, c) -> x.string(c, 1, 1), (x, c) -> x.ref(c, false, c, 1, 0), (x, c) -> x.ref(c, true, c, 1, 0)};

    /** "A class has a POOL of ENTRIES (32 at most)"; "UnsupportedOperationException when the pool has 32". */
    private static void poolOf32() {
        for (Adding first : ENTRIES) {
            SiteSealer x = classes(1);
            due.is("an empty pool", x.pool(false, 0), 0);
            for (int j = 0; j < 32; j++) {
                int j0 = j;
                due.fails("entry " + j + " is none yet", NONE, () -> x.entry(false, 0, j0, 0));
                due.is("place", first.to(x, 0), j);
            }
            due.is("a full pool", x.pool(false, 0), 32);
            for (Adding further : ENTRIES) {
                due.fails("a 33rd entry", FULL, () -> further.to(x, 0));
            }
            due.is("it has 32 still", x.pool(false, 0), 32);
            due.fails("entry 32 is none", NONE, () -> x.entry(false, 0, 32, 0));
        }
    }

    private static void eachPoolHasItsOwn32() {
        SiteSealer x = classes(8);
        for (int c = 0; c < 8; c++) {
            for (int j = 0; j < 32; j++) {
                due.is("place", x.number(c, c * 32 + j, true), j);
            }
        }
        for (int c = 0; c < 8; c++) {
            int c0 = c;
            due.fails("a 33rd entry of class " + c, FULL, () -> x.number(c0, 0, true));
            due.is("the first one of class " + c, x.entry(false, c, 0, 1), c * 32);
            due.is("the last one of class " + c, x.entry(false, c, 31, 1), c * 32 + 31);
        }
    }

    /** "FIELDS and METHODS (6 at most each)"; "UnsupportedOperationException when it has 6". */
    private static void sixFields() {
        SiteSealer x = classes(8);
        for (int c = 0; c < 8; c++) {
            int c0 = c;
            for (int f = 0; f < 6; f++) {
                due.is("field", x.field(c, 26 + f, f % 2, f), f);
            }
            due.fails("a seventh field of class " + c, FULL, () -> x.field(c0, 25, 0, 0));
            due.is("methods are counted by themselves", x.method(c, 1, 0, 1, 0), 0);
        }
    }

    /** "A field (name 1 .. 31, flags 0 .. 7)", "a KIND is 0 .. 1"; IAE "when a number is not within its bounds". */
    private static void namesKindsAndFlagsOfFields() {
        for (int name = -1; name <= 33; name++) {
            SiteSealer x = classes(1);
            int name0 = name;
            accepts("field of name " + name, name >= 1 && name <= 31, () -> x.field(0, name0, 0, 0));
        }
        for (int kind = -2; kind <= 3; kind++) {
            SiteSealer x = classes(1);
            int kind0 = kind;
            accepts("field of kind " + kind, kind == 0 || kind == 1, () -> x.field(0, 1, kind0, 0));
        }
        for (int flags = -2; flags <= 17; flags++) {
            SiteSealer x = classes(1);
            int flags0 = flags;
            accepts("field of flags " + flags, flags >= 0 && flags <= 7, () -> x.field(0, 1, 0, flags0));
        }
        SiteSealer x = classes(1);
        for (int far : FAR) {
            due.fails("field of name " + far, BOUNDS, () -> x.field(0, far, 0, 0));
            due.fails("field of kind " + far, BOUNDS, () -> x.field(0, 1, far, 0));
            due.fails("field of flags " + far, BOUNDS, () -> x.field(0, 1, 0, far));
        }
        due.is("none of them is there", x.field(0, 1, 0, 0), 0);
    }

    /** Whether a call on an object without members gives number 0, or is out of bounds. */
    private static void accepts(String what, boolean isWithin, Due.Call call) {
        if (isWithin) {
            due.is(what, call.answer(), 0);
        } else {
            due.fails(what, BOUNDS, call);
        }
    }

    /** "IllegalStateException when the class has one of that name and kind". */
    private static void oneFieldOfNameAndKind() {
        SiteSealer x = classes(1);
        x.type(0);
        due.is("a field", x.field(0, 1, 0, 0), 0);
        for (int flags = 0; flags < 8; flags++) {
            int flags0 = flags;
            due.fails("of the same name and kind, flags " + flags, STATE, () -> x.field(0, 1, 0, flags0));
        }
        due.is("of another kind", x.field(0, 1, 1, 0), 1);
        due.is("of another name", x.field(0, 2, 0, 0), 2);
        due.is("of a class below", x.field(1, 1, 0, 0), 0);
        due.is("a method of that name and shape", x.method(0, 1, 0, 0, 0), 0);
        due.fails("the last one once more", STATE, () -> x.field(0, 2, 0, 0));
    }

    private static void sixMethods() {
        SiteSealer x = classes(8);
        for (int c = 0; c < 8; c++) {
            int c0 = c;
            for (int m = 0; m < 6; m++) {
                int m0 = m;
                due.fails("method " + m + " is none yet", NONE, () -> x.wrong(false, c0, m0));
                due.is("method", x.method(c, m, 0, 1, 0), m);
                due.is("method " + m + " is one, without code", x.wrong(false, c, m), 0);
            }
            due.fails("a seventh method of class " + c, FULL, () -> x.method(c0, 25, 0, 0, 0));
            due.fails("method 6 is none", NONE, () -> x.wrong(false, c0, 6));
            due.is("fields are counted by themselves", x.field(c, 1, 0, 0), 0);
        }
    }

    /** "A method (name 0 .. 31; ..; locals 0 .. 255)"; "a SHAPE (0 .. 63 ..)". */
    private static void namesShapesAndLocalsOfMethods() {
        for (int name = -1; name <= 33; name++) {
            SiteSealer x = classes(1);
            int name0 = name;
            accepts("method of name " + name, name >= 0 && name <= 31, () -> x.method(0, name0, 0, 1, 0));
        }
        for (int shape = -2; shape <= 66; shape++) {
            SiteSealer x = classes(1);
            int shape0 = shape;
            accepts("method of shape " + shape, shape >= 0 && shape <= 63, () -> x.method(0, 1, shape0, 1, 0));
        }
        for (int locals : new int[] {-2, -1, 0, 1, 254, 255, 256, 257, 511}) {
            SiteSealer x = classes(1);
            accepts("method of locals " + locals, locals >= 0 && locals <= 255, () -> x.method(0, 1, 0, 1, locals));
        }
        SiteSealer x = classes(1);
        for (int far : FAR) {
            due.fails("method of name " + far, BOUNDS, () -> x.method(0, far, 0, 1, 0));
            due.fails("method of shape " + far, BOUNDS, () -> x.method(0, 1, far, 1, 0));
            due.fails("method of flags " + far, BOUNDS, () -> x.method(0, 1, 0, far, 0));
            due.fails("method of locals " + far, BOUNDS, () -> x.method(0, 1, 0, 1, far));
        }
        due.is("none of them is there", x.method(0, 1, 0, 1, 0), 0);
    }

    /** "flags 0, 1, 4, 5". */
    private static void flagsOfMethods() {
        for (int flags = -9; flags <= 17; flags++) {
            SiteSealer x = classes(1);
            int flags0 = flags;
            boolean isOne = flags == 0 || flags == 1 || flags == 4 || flags == 5;
            accepts("method of flags " + flags, isOne, () -> x.method(0, 1, 0, flags0, 0));
        }
    }

    /** "A method 0 is INIT: of shape 0, static"; "IllegalArgumentException (also for a method 0 that is not an INIT)". */
    private static void methodNull() {
        for (int shape = 0; shape < 64; shape++) {
            for (int flags : new int[] {0, 1, 4, 5}) {
                SiteSealer x = classes(1);
                int shape0 = shape;
                accepts("method 0 of shape " + shape + ", flags " + flags, shape == 0 && (flags & 1) == 1,
                        () -> x.method(0, 0, shape0, flags, 0));
            }
        }
        SiteSealer x = classes(1);
        due.is("INIT with all locals", x.method(0, 0, 0, 5, 255), 0);
    }

    /** "IllegalStateException when the class has one of that name and shape". */
    private static void oneMethodOfNameAndShape() {
        SiteSealer x = classes(1);
        x.type(0);
        due.is("a method", x.method(0, 1, 0, 1, 0), 0);
        for (int flags : new int[] {0, 1, 4, 5}) {
            due.fails("of the same name and shape, flags " + flags, STATE, () -> x.method(0, 1, 0, flags, 1));
        }
        due.is("of a shape with another result", x.method(0, 1, 32, 1, 0), 1);
        due.is("of a shape that differs in the kind of no argument", x.method(0, 1, 4, 1, 0), 2);
        due.is("of another name", x.method(0, 2, 0, 1, 0), 3);
        due.is("of a class below", x.method(1, 1, 0, 1, 0), 0);
        due.is("INIT", x.method(0, 0, 0, 1, 0), 4);
        due.fails("INIT once more", STATE, () -> x.method(0, 0, 0, 5, 0));
        due.is("INIT of another class", x.method(1, 0, 0, 1, 0), 1);
    }

    /** "An entry with a number, of 64 bits, or of 32 (the lowest ones)". */
    private static void numbersOf32Bits() {
        long[][] all = {{0, 0}, {0x7fffffffL, 0x7fffffffL}, {0x80000000L, -0x80000000L}, {0xffffffffL, -1}, {0x100000000L, 0},
            {0x100000001L, 1}, {-1, -1}, {-0x80000000L, -0x80000000L}, {-0x80000001L, 0x7fffffffL}, {Long.MAX_VALUE, -1},
            {Long.MIN_VALUE, 0}};
        SiteSealer x = classes(1);
        int m = x.method(0, 1, 0, 1, 0);
        StringBuilder rows = new StringBuilder("5:0");
        for (int i = 0; i < all.length; i++) {
            due.is("place", x.number(0, all[i][0], false), i);
            due.is("sort", x.entry(false, 0, i, 0), 1);
            due.is("the lowest 32 of " + all[i][0], x.entry(false, 0, i, 1), all[i][1]);
            due.is("length", x.entry(false, 0, i, 2), 0);
            Ops.write(x, 0, m, Ops.PUSH, i, Ops.OUT, 0);
            rows.append(" 1:").append(all[i][1]);
        }
        Ops.write(x, 0, m, Ops.LOAD, 0, Ops.RET, 0);
        runBoth(x, rows.toString());
    }

    private static void runBoth(SiteSealer x, String rows) {
        x.seal(-3);
        for (int s = 0; s < 2; s++) {
            due.is("run", x.run(s == 1, 0, 1, 0, 3000), 0);
            due.text("rows", Ops.rows(x, s == 1), rows);
        }
    }

    private static void numbersOf64Bits() {
        long[] all = {0, 1, -1, 0x80000000L, 0x100000000L, Long.MAX_VALUE, Long.MIN_VALUE};
        SiteSealer x = classes(1);
        int m = x.method(0, 1, 0, 1, 0);
        StringBuilder rows = new StringBuilder("5:0");
        for (int i = 0; i < all.length; i++) {
            due.is("place", x.number(0, all[i], true), i);
            due.is("sort", x.entry(false, 0, i, 0), 2);
            due.is("all 64", x.entry(false, 0, i, 1), all[i]);
            due.is("length", x.entry(false, 0, i, 2), 0);
            Ops.write(x, 0, m, Ops.PUSH, i, Ops.OUT, 0);
            rows.append(" 1:").append(all[i]);
        }
        Ops.write(x, 0, m, Ops.LOAD, 0, Ops.RET, 0);
        runBoth(x, rows.toString());
    }

    /** "a string of the n lowest bytes of a long, the first one lowest"; IAE "when n is not 0 .. 8". */
    private static void stringsOfNoneToEightBytes() {
        SiteSealer x = classes(1);
        int m = x.method(0, 1, 0, 1, 0);
        for (int n : new int[] {-1, 9, 10, 64, FAR[0], FAR[1]}) {
            due.fails("a string of " + n + " bytes", BOUNDS, () -> x.string(0, 1, n));
        }
        due.is("no entry came of it", x.pool(false, 0), 0);
        StringBuilder rows = new StringBuilder("5:0");
        long bytes = 0;
        for (int n = 0; n <= 8; n++) {
            due.is("place", x.string(0, 0x8f8e8d8c8b8a8988L, n), n);
            due.is("sort", x.entry(false, 0, n, 0), 3);
            due.is("the lowest " + n, x.entry(false, 0, n, 1), bytes);
            due.is("length", x.entry(false, 0, n, 2), n);
            Ops.write(x, 0, m, Ops.PUSH, n, Ops.SAY, 0);
            rows.append(" 2:").append(bytes);
            bytes |= (0x88L + n) << 8 * n;
        }
        Ops.write(x, 0, m, Ops.LOAD, 0, Ops.RET, 0);
        runBoth(x, rows.toString());
    }

    /** IAE "when name is not 0 .. 31, or shape not 0 .. 63 (a field's kind 0 .. 1)". */
    private static void namesAndShapesOfRefs() {
        for (int isField = 0; isField < 2; isField++) {
            boolean f = isField == 1;
            for (int name = -2; name <= 33; name++) {
                SiteSealer x = classes(1);
                int name0 = name;
                accepts("ref of name " + name, name >= 0 && name <= 31, () -> x.ref(0, f, 0, name0, 0));
            }
            for (int shape = -2; shape <= 65; shape++) {
                SiteSealer x = classes(1);
                int shape0 = shape;
                accepts("ref of shape " + shape, shape >= 0 && shape <= (f ? 1 : 63), () -> x.ref(0, f, 0, 1, shape0));
            }
            SiteSealer x = classes(1);
            for (int far : FAR) {
                due.fails("ref of name " + far, BOUNDS, () -> x.ref(0, f, 0, far, 0));
                due.fails("ref of shape " + far, BOUNDS, () -> x.ref(0, f, 0, 1, far));
            }
            due.is("no entry came of it", x.pool(false, 0), 0);
        }
    }

    /** "NoSuchElementException (owner, too)"; the owner may be any class, also one below or of another line. */
    private static void ownersOfRefs() {
        SiteSealer x = classes(8);
        for (int owner = -1; owner <= 8; owner++) {
            int owner0 = owner;
            if (owner < 0 || owner > 7) {
                due.fails("owner " + owner, NONE, () -> x.ref(3, true, owner0, 1, 1));
                due.fails("owner " + owner, NONE, () -> x.ref(3, false, owner0, 1, 1));
            } else {
                due.is("owner " + owner, x.ref(3, true, owner, 31, 1), 2 * owner);
                due.is("what it says", x.entry(false, 3, 2 * owner, 1), owner + 256 * 31 + 65536);
                due.is("owner " + owner, x.ref(3, false, owner, 31, 63), 2 * owner + 1);
                due.is("what it says", x.entry(false, 3, 2 * owner + 1, 1), owner + 256 * 31 + 65536 * 63);
            }
        }
        for (int far : FAR) {
            due.fails("owner " + far, NONE, () -> x.ref(3, true, far, 1, 1));
        }
    }

    /** "INSTRUCTIONS 0, 1, .. (40 at most)"; "UnsupportedOperationException when there are 40". */
    private static void fortyInstructions() {
        SiteSealer x = classes(1);
        x.method(0, 1, 0, 1, 0);
        x.method(0, 2, 0, 1, 0);
        for (int i = 0; i < 40; i++) {
            int i0 = i;
            due.fails("instruction " + i + " is none yet", NONE, () -> x.code(false, 0, 0, i0, 0));
            due.is("instruction", x.op(0, 0, Ops.GOTO, i), i);
        }
        due.fails("a 41st instruction", FULL, () -> x.op(0, 0, Ops.GOTO, 0));
        due.fails("instruction 40 is none", NONE, () -> x.code(false, 0, 0, 40, 0));
        due.is("the last one", x.code(false, 0, 0, 39, 1), 39);
        due.is("another method has its own 40", x.op(0, 1, Ops.GOTO, 0), 0);
        due.is("all 40 are right", x.wrong(false, 0, 0), -1);
    }

    /** "IllegalArgumentException when op is not 0 .. 23": the sealed ones can't be written. */
    private static void opsFrom0To23() {
        for (int op = -2; op <= 27; op++) {
            SiteSealer x = classes(1);
            x.method(0, 1, 0, 1, 0);
            int op0 = op;
            accepts("op " + op, op >= 0 && op <= 23, () -> x.op(0, 0, op0, 0));
        }
        SiteSealer x = classes(1);
        x.method(0, 1, 0, 1, 0);
        for (int far : FAR) {
            due.fails("op " + far, BOUNDS, () -> x.op(0, 0, far, 0));
        }
        due.fails("no instruction came of it", NONE, () -> x.code(false, 0, 0, 0, 0));
    }

    /** "a is any number, and kept, also where the op has none". */
    private static void anyNumberIsKept() {
        for (int a : new int[] {0, 1, -1, 255, 256, FAR[0], FAR[1]}) {
            SiteSealer x = classes(1);
            x.method(0, 1, 0, 1, 0);
            for (int op = 0; op <= 23; op++) {
                due.is("instruction", x.op(0, 0, op, a), op);
                due.is("its op", x.code(false, 0, 0, op, 0), op);
                due.is("its a", x.code(false, 0, 0, op, 1), a);
            }
        }
        SiteSealer x = classes(1);
        Ops.main(x, 0, 1, Ops.NULL, FAR[0], Ops.SAY, FAR[1], Ops.LOAD, 0, Ops.RET, -1);
        x.seal(1);
        due.is("an a that the op has not, in the copy", x.code(true, 0, 0, 1, 1), FAR[1]);
        due.is("a of RET in the copy", x.code(true, 0, 0, 3, 1), -1);
    }

    /** "NoSuchElementException: there is no such class, .. method". */
    private static void noSuchClassOrMethod() {
        SiteSealer x = classes(2);
        x.method(1, 1, 0, 1, 0);
        for (int c : new int[] {-1, 2, 8, FAR[0], FAR[1]}) {
            due.fails("field of class " + c, NONE, () -> x.field(c, 1, 0, 0));
            due.fails("method of class " + c, NONE, () -> x.method(c, 1, 0, 1, 0));
            due.fails("number of class " + c, NONE, () -> x.number(c, 1, true));
            due.fails("string of class " + c, NONE, () -> x.string(c, 1, 1));
            due.fails("ref of class " + c, NONE, () -> x.ref(c, true, 0, 1, 0));
            due.fails("op of class " + c, NONE, () -> x.op(c, 0, 0, 0));
        }
        for (int m : new int[] {-1, 1, 6, FAR[0], FAR[1]}) {
            due.fails("op of method " + m, NONE, () -> x.op(1, m, 0, 0));
        }
        due.fails("op of a method of another class", NONE, () -> x.op(0, 0, 0, 0));
        due.is("the method itself", x.op(1, 0, 0, 0), 0);
    }
}
