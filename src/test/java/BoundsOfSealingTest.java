import java.math.BigInteger;
import java.util.NoSuchElementException;

/** The sentences that name a boundary of sealing, of what was left, and of pools and code: promises 10 to 15. */
public final class BoundsOfSealingTest {
    private static final Class<NoSuchElementException> NONE = NoSuchElementException.class;
    private static final Class<IllegalStateException> STATE = IllegalStateException.class;
    private static final Class<IndexOutOfBoundsException> BOUNDS = IndexOutOfBoundsException.class;
    private static final int[] FAR = {Integer.MIN_VALUE, Integer.MAX_VALUE};
    private static final Due due = new Due("BoundsOfSealingTest");

    public static void main(String[] args) {
        nothingToHide();
        eachOpThatIsHidden();
        namesAMethodNull();
        takesMoreThanThree();
        putsIntoFinal();
        finalOnesAboveAndBelow();
        finalOfAnyOtherFlags();
        thePoolHas32();
        eachClassHasItsOwnRoom();
        orderOfReasons();
        fullClassIsLeft();
        orderOfClassesMethodsInstructions();
        keysThatWrapAround();
        everyTurn();
        lastEntryOfLastClass();
        sealedIntsAreNotBelowNull();
        sealedStrings();
        sealedSites();
        wrongMethodIsNotSealed();
        sealingAnew();
        sealingAnewBehindMore();
        theClassesStayAsTheyAre();
        leftWithoutCopy();
        leftAtBounds();
        poolBounds();
        entryBounds();
        codeBounds();
        due.end();
    }

    private static SiteSealer classes(int... parents) {
        SiteSealer x = new SiteSealer();
        for (int parent : parents) {
            x.type(parent);
        }
        return x;
    }

    private static void left(SiteSealer x, int k, int type, int method, int instruction, int reason) {
        due.is("class of left " + k, x.leftAt(k, 0), type);
        due.is("method of left " + k, x.leftAt(k, 1), method);
        due.is("instruction of left " + k, x.leftAt(k, 2), instruction);
        due.is("reason of left " + k, x.leftAt(k, 3), reason);
    }

    private static void nothingToHide() {
        SiteSealer x = new SiteSealer();
        due.is("no classes", x.seal(1), 0);
        due.is("none left", x.left(), 0);
        x.type(-1);
        due.is("a class without methods", x.seal(1), 0);
        x.number(0, 1, true);
        due.is("an entry that nothing pushes", x.seal(1), 0);
        due.is("no entry comes behind it", x.pool(true, 0), 1);
        Ops.main(x, 0, 1, Ops.NULL, 0, Ops.SAY, 0, Ops.NEW, 0, Ops.POP, 0, Ops.LOAD, 0, Ops.DUP, 0, Ops.ADD, 0,
                Ops.RET, 0);
        due.is("ops that name no entry", x.seal(1), 0);
        due.is("none left", x.left(), 0);
    }

    /** "each PUSH, STATIC, VIRTUAL, GETS, PUTS, GETF, PUTF is HIDDEN"; "OPEN, or MEET, of it in its place". */
    private static void eachOpThatIsHidden() {
        int[][] all = {{Ops.PUSH, 0}, {Ops.STATIC, 1}, {Ops.VIRTUAL, 1}, {Ops.GETS, 2}, {Ops.PUTS, 2}, {Ops.GETF, 2},
            {Ops.PUTF, 2}};
        for (int[] one : all) {
            SiteSealer x = classes(-1);
            x.number(0, 1, false);
            x.ref(0, false, 0, 9, 0);
            x.ref(0, true, 0, 9, 0);
            int m = x.method(0, 1, 0, 1, 0);
            int at = 0;
            if (one[0] == Ops.VIRTUAL || one[0] == Ops.GETF || one[0] == Ops.PUTF) {
                at = x.op(0, m, Ops.NULL, 0) + 1;
            }
            if (one[0] == Ops.PUTS || one[0] == Ops.PUTF) {
                at = x.op(0, m, Ops.LOAD, 0) + 1;
            }
            x.op(0, m, one[0], one[1]);
            if (one[0] == Ops.PUTS || one[0] == Ops.PUTF) {
                x.op(0, m, Ops.LOAD, 0);
            }
            x.op(0, m, Ops.RET, 0);
            due.is("op " + one[0] + " is hidden", x.seal(1), 1);
            due.is("in its place", x.code(true, 0, m, at, 0), one[0] == Ops.PUSH ? Ops.OPEN : Ops.MEET);
            due.is("the entry behind the others", x.code(true, 0, m, at, 1), 3);
            due.is("its sort", x.entry(true, 0, 3, 0), one[0] == Ops.PUSH ? 6 : 9);
            due.is("it alone", x.pool(true, 0), 4);
            due.is("none is left", x.left(), 0);
        }
    }

    /** Method 1 of class 0: as many references and numbers as an op takes, the op, and an end; its reason, or 0. */
    private static void reason(String what, SiteSealer x, String takes, int op, int a, int want) {
        int m = x.method(0, 1, 0, 1, 0);
        for (int i = 0; i < takes.length(); i++) {
            x.op(0, m, takes.charAt(i) == 'n' ? Ops.LOAD : Ops.NULL, 0);
        }
        x.op(0, m, op, a);
        if (op != Ops.PUTS && op != Ops.PUTF) {
            x.op(0, m, Ops.POP, 0);
        }
        Ops.write(x, 0, m, Ops.LOAD, 0, Ops.RET, 0);
        due.is(what + ": hidden", x.seal(11), want == 0 ? 1 : 0);
        due.is(what + ": left", x.left(), want == 0 ? 0 : 1);
        due.is(what + ": op", x.code(true, 0, m, takes.length(), 0), want != 0 ? op : Ops.MEET);
        if (want != 0) {
            left(x, 0, 0, m, takes.length(), want);
            due.is(what + ": a is left, too", x.code(true, 0, m, takes.length(), 1), a);
        }
    }

    private static SiteSealer withRef(boolean isField, int name, int shape) {
        SiteSealer x = classes(-1);
        x.ref(0, isField, 0, name, shape);
        return x;
    }

    /** "1 it names a method 0": a method's name, of whatever shape, and not a field's. */
    private static void namesAMethodNull() {
        reason("STATIC 0", withRef(false, 0, 0), "", Ops.STATIC, 0, 1);
        reason("STATIC 1", withRef(false, 1, 0), "", Ops.STATIC, 0, 0);
        reason("VIRTUAL 0", withRef(false, 0, 0), "r", Ops.VIRTUAL, 0, 1);
        reason("VIRTUAL 0 with arguments", withRef(false, 0, 2), "rnn", Ops.VIRTUAL, 0, 1);
        reason("GETS 0", withRef(true, 0, 0), "", Ops.GETS, 0, 0);
        reason("PUTF 0", withRef(true, 0, 0), "rn", Ops.PUTF, 0, 0);
    }

    /** "2 it takes more than three (receiver and arguments)". */
    private static void takesMoreThanThree() {
        reason("STATIC of none", withRef(false, 5, 0), "", Ops.STATIC, 0, 0);
        reason("STATIC of three", withRef(false, 5, 3), "nnn", Ops.STATIC, 0, 0);
        reason("VIRTUAL of one", withRef(false, 5, 0), "r", Ops.VIRTUAL, 0, 0);
        reason("VIRTUAL of three", withRef(false, 5, 2), "rnn", Ops.VIRTUAL, 0, 0);
        reason("VIRTUAL of four", withRef(false, 5, 3), "rnnn", Ops.VIRTUAL, 0, 2);
        reason("VIRTUAL of four references", withRef(false, 5, 63), "rrrr", Ops.VIRTUAL, 0, 2);
    }

    private static SiteSealer withField(int name, int kind, int flags) {
        SiteSealer x = withRef(true, 7, 0);
        x.field(0, name, kind, flags);
        return x;
    }

    /** "3 it puts into a field that is found .. (by name and kind alone), and final". */
    private static void putsIntoFinal() {
        reason("PUTS, final", withField(7, 0, 3), "n", Ops.PUTS, 0, 3);
        reason("PUTS, not final", withField(7, 0, 1), "n", Ops.PUTS, 0, 0);
        reason("PUTF, final", withField(7, 0, 2), "rn", Ops.PUTF, 0, 3);
        reason("PUTF, not final", withField(7, 0, 0), "rn", Ops.PUTF, 0, 0);
        reason("GETS gets", withField(7, 0, 3), "", Ops.GETS, 0, 0);
        reason("GETF gets", withField(7, 0, 2), "r", Ops.GETF, 0, 0);
        reason("PUTS, a final one of another kind", withField(7, 1, 3), "n", Ops.PUTS, 0, 0);
        reason("PUTS, a final one of another name", withField(8, 0, 3), "n", Ops.PUTS, 0, 0);
        reason("PUTS, none", withRef(true, 7, 0), "n", Ops.PUTS, 0, 0);
        SiteSealer x = withRef(true, 7, 1);
        x.field(0, 7, 1, 2);
        reason("PUTF of a reference, final", x, "rr", Ops.PUTF, 0, 3);
    }

    /** "found in the line of the entry's class": the first one there counts, not the class whose pool it is in. */
    private static void finalOnesAboveAndBelow() {
        int[][] all = {{2, -1, 3}, {2, 0, 0}, {0, 2, 3}, {0, -1, 0}, {-1, 2, 3}, {2, 2, 3}};
        for (int[] flags : all) {
            SiteSealer x = classes(-1, -1, 1, 2);
            x.ref(0, true, 2, 7, 0);
            x.field(0, 7, 0, flags[2] == 3 ? 0 : 2);
            x.field(3, 7, 0, flags[2] == 3 ? 0 : 2);
            if (flags[0] >= 0) {
                x.field(1, 7, 0, flags[0]);
            }
            if (flags[1] >= 0) {
                x.field(2, 7, 0, flags[1]);
            }
            reason("above " + flags[0] + ", below " + flags[1], x, "rn", Ops.PUTF, 0, flags[2]);
        }
    }

    private static void finalOfAnyOtherFlags() {
        for (int flags = 0; flags < 8; flags++) {
            int want = (flags & 2) != 0 ? 3 : 0;
            reason("PUTS, flags " + flags, withField(7, 0, flags), "n", Ops.PUTS, 0, want);
            reason("PUTF, flags " + flags, withField(7, 0, flags), "rn", Ops.PUTF, 0, want);
        }
    }

    /** "4 the pool has 32": it fills, by one with each that is hidden. */
    private static void thePoolHas32() {
        for (int entries = 28; entries <= 32; entries++) {
            SiteSealer x = classes(-1);
            for (int j = 0; j < entries; j++) {
                x.number(0, j, j % 2 == 0);
            }
            int m = x.method(0, 1, 0, 1, 0);
            for (int i = 0; i < 6; i++) {
                Ops.write(x, 0, m, Ops.PUSH, i, Ops.OUT, 0);
            }
            Ops.write(x, 0, m, Ops.LOAD, 0, Ops.RET, 0);
            int room = 32 - entries;
            due.is("hidden of " + entries, x.seal(2), room);
            due.is("a full pool", x.pool(true, 0), 32);
            due.is("the pool of the classes", x.pool(false, 0), entries);
            due.is("left", x.left(), 6 - room);
            for (int k = 0; k < 6 - room; k++) {
                left(x, k, 0, m, 2 * (room + k), 4);
                due.is("left as it is", x.code(true, 0, m, 2 * (room + k), 0), Ops.PUSH);
                due.is("with its a", x.code(true, 0, m, 2 * (room + k), 1), room + k);
            }
            due.is("runs", x.run(false, 0, 1, 0, 99) + x.run(true, 0, 1, 0, 99), 0);
            due.is("alike", x.alike(), true);
        }
    }

    private static void eachClassHasItsOwnRoom() {
        SiteSealer x = classes(-1, -1, -1);
        for (int c = 0; c < 3; c++) {
            for (int j = 0; j < (c == 1 ? 32 : 31); j++) {
                x.number(c, j, true);
            }
            Ops.main(x, c, 1, Ops.PUSH, 30, Ops.OUT, 0, Ops.PUSH, 0, Ops.RET, 0);
        }
        due.is("hidden", x.seal(6), 2);
        due.is("left", x.left(), 4);
        left(x, 0, 0, 0, 2, 4);
        left(x, 1, 1, 0, 0, 4);
        left(x, 2, 1, 0, 2, 4);
        left(x, 3, 2, 0, 2, 4);
    }

    private static SiteSealer filled(SiteSealer x) {
        for (int j = x.pool(false, 0); j < 32; j++) {
            x.number(0, j, true);
        }
        return x;
    }

    /** "for the first of these reasons". */
    private static void orderOfReasons() {
        reason("1 and 2", withRef(false, 0, 3), "rnnn", Ops.VIRTUAL, 0, 1);
        reason("1 and 4", filled(withRef(false, 0, 0)), "", Ops.STATIC, 0, 1);
        reason("1, 2 and 4", filled(withRef(false, 0, 3)), "rnnn", Ops.VIRTUAL, 0, 1);
        reason("2 and 4", filled(withRef(false, 5, 3)), "rnnn", Ops.VIRTUAL, 0, 2);
        reason("3 and 4, PUTS", filled(withField(7, 0, 3)), "n", Ops.PUTS, 0, 3);
        reason("3 and 4, PUTF", filled(withField(7, 0, 2)), "rn", Ops.PUTF, 0, 3);
        reason("4 of STATIC", filled(withRef(false, 5, 3)), "nnn", Ops.STATIC, 0, 4);
        reason("4 of VIRTUAL", filled(withRef(false, 5, 2)), "rnn", Ops.VIRTUAL, 0, 4);
        reason("4 of GETS", filled(withRef(true, 7, 0)), "", Ops.GETS, 0, 4);
        reason("4 of GETF", filled(withRef(true, 7, 0)), "r", Ops.GETF, 0, 4);
        reason("4 of PUTS", filled(withField(7, 0, 1)), "n", Ops.PUTS, 0, 4);
        reason("4 of PUTF", filled(withField(7, 0, 0)), "rn", Ops.PUTF, 0, 4);
    }

    /** Six methods of 40 instructions, of which 39 each could be hidden. */
    private static void fullClassIsLeft() {
        SiteSealer x = filled(withField(7, 0, 1));
        for (int m = 0; m < 6; m++) {
            x.method(0, m, 0, 1, 0);
            for (int i = 0; i < 19; i++) {
                Ops.write(x, 0, m, Ops.GETS, 0, Ops.PUTS, 0);
            }
            Ops.write(x, 0, m, Ops.GETS, 0, Ops.RET, 0);
        }
        due.is("nothing is hidden", x.seal(0), 0);
        due.is("left", x.left(), 6 * 39);
        left(x, 0, 0, 0, 0, 4);
        left(x, 38, 0, 0, 38, 4);
        left(x, 39, 0, 1, 0, 4);
        left(x, 6 * 39 - 1, 0, 5, 38, 4);
        due.fails("one more", NONE, () -> x.leftAt(6 * 39, 0));
    }

    /** "by classes, methods, instructions". */
    private static void orderOfClassesMethodsInstructions() {
        SiteSealer x = classes(-1, -1);
        for (int c = 1; c >= 0; c--) {
            x.number(c, 5, true);
            x.method(c, 9, 0, 1, 0);
            x.method(c, 8, 0, 1, 0);
            Ops.write(x, c, 1, Ops.PUSH, 0, Ops.OUT, 0, Ops.PUSH, 0, Ops.RET, 0);
            Ops.write(x, c, 0, Ops.PUSH, 0, Ops.OUT, 0, Ops.PUSH, 0, Ops.RET, 0);
        }
        due.is("hidden", x.seal(3), 8);
        for (int c = 0; c < 2; c++) {
            for (int i = 0; i < 4; i++) {
                due.is("entry of " + i, x.code(true, c, i / 2, i % 2 * 2, 1), 1 + i);
            }
        }
    }

    /** So many classes, each of which tells one number of 32 bits and of 64, and one string. */
    private static SiteSealer constants(int count, long v, int padding) {
        SiteSealer x = new SiteSealer();
        for (int c = 0; c < count; c++) {
            x.type(-1);
            x.number(c, v, false);
            x.number(c, v, true);
            x.string(c, v, 8);
            for (int j = 0; j < padding; j++) {
                x.number(c, 0, true);
            }
            Ops.main(x, c, 1, Ops.PUSH, 0, Ops.OUT, 0, Ops.PUSH, 2, Ops.SAY, 0, Ops.PUSH, 1, Ops.RET, 0);
        }
        return x;
    }

    private static void checkConstants(SiteSealer x, long key, int count, long v, int first) {
        due.is("hidden", x.seal(key), 3 * count);
        for (int c = 0; c < count; c++) {
            String which = "key " + key + ", class " + c + ": ";
            BigInteger k = Formulas.sealOf(key, c, first);
            due.is(which + "32 bits", x.entry(true, c, first, 1), Formulas.closed(v, k, 32).longValue());
            k = Formulas.sealOf(key, c, first + 1);
            due.is(which + "a string", x.entry(true, c, first + 1, 1), v ^ k.longValue());
            k = Formulas.sealOf(key, c, first + 2);
            due.is(which + "64 bits", x.entry(true, c, first + 2, 1), Formulas.closed(v, k, 64).longValue());
            due.is(which + "runs", x.run(false, c, 1, 0, 9) + x.run(true, c, 1, 0, 9), 0);
            due.is(which + "alike", x.alike(), true);
            due.is(which + "result", x.told(true, -4), v);
        }
    }

    /** "MIX(key + c)", of 64 bits: the sum goes over the end. */
    private static void keysThatWrapAround() {
        SiteSealer x = constants(8, 0x123456789abcdef0L, 0);
        for (long key : new long[] {0, -1, -7, -8, Long.MAX_VALUE, Long.MAX_VALUE - 6, Long.MIN_VALUE}) {
            checkConstants(x, key, 8, 0x123456789abcdef0L, 3);
        }
        SiteSealer y = constants(2, 5, 0);
        y.seal(-1);
        long ofClass1 = y.entry(true, 1, 3, 1);
        y.seal(0);
        due.is("class 1 with key -1 is class 0 with key 0", y.entry(true, 0, 3, 1), ofClass1);
    }

    /** "turned left by the highest five bits of K", "the highest six": each turn, 0 among them. */
    private static void everyTurn() {
        boolean[] of32 = new boolean[32];
        boolean[] of64 = new boolean[64];
        for (long key = 0; key < 400; key++) {
            SiteSealer x = constants(1, -2 - key, 0);
            checkConstants(x, key, 1, -2 - key, 3);
            of32[Formulas.turnOf(Formulas.sealOf(key, 0, 3), 32)] = true;
            of64[Formulas.turnOf(Formulas.sealOf(key, 0, 5), 64)] = true;
        }
        for (int turn = 0; turn < 64; turn++) {
            due.is("turn " + turn, of64[turn] && of32[turn % 32], true);
        }
    }

    /** "j + 1" and "c" as large as they may be. */
    private static void lastEntryOfLastClass() {
        SiteSealer x = constants(8, Long.MIN_VALUE, 26);
        checkConstants(x, 0x0fedcba987654321L, 8, Long.MIN_VALUE, 29);
        due.is("full", x.pool(true, 7), 32);
    }

    /** "all in 32 bits, told as a number above or at 0". */
    private static void sealedIntsAreNotBelowNull() {
        int high = 0;
        for (int key = 0; key < 64; key++) {
            SiteSealer x = constants(1, -1, 0);
            x.seal(key);
            long value = x.entry(true, 0, 3, 1);
            due.is("above or at 0, in 32 bits", value >= 0 && value <= 0xffffffffL, true);
            high += value > Integer.MAX_VALUE ? 1 : 0;
        }
        due.is("some are beyond those of Java's int", high > 0 && high < 64, true);
        BigInteger k = Formulas.sealOf(9, 0, 3);
        SiteSealer x = constants(1, k.longValue(), 0);
        x.seal(9);
        due.is("K itself is sealed as 0", x.entry(true, 0, 3, 1), 0);
        x.run(true, 0, 1, 0, 9);
        due.is("and opens", x.told(true, 3), k.intValue());
    }

    /** "a string's bytes (as a long) XOR K, and its length". */
    private static void sealedStrings() {
        for (int n = 0; n <= 8; n++) {
            SiteSealer x = classes(-1);
            x.string(0, 0x8f8e8d8c8b8a8988L, n);
            Ops.write(x, 0, x.method(0, 1, 0, 1, 0), Ops.PUSH, 0, Ops.DUP, 0, Ops.SAY, 0, Ops.PUSH, 0, Ops.SAME, 0, Ops.RET, 0);
            due.is("hidden", x.seal(21), 2);
            for (int j = 1; j < 3; j++) {
                due.is("sort", x.entry(true, 0, j, 0), 8);
                due.is("bytes", x.entry(true, 0, j, 1), x.entry(true, 0, 0, 1) ^ Formulas.sealOf(21, 0, j).longValue());
                due.is("length", x.entry(true, 0, j, 2), n);
            }
            x.run(false, 0, 1, 0, 99);
            x.run(true, 0, 1, 0, 99);
            due.is("alike", x.alike(), true);
            due.is("both open to one string", x.told(true, -4), 1);
        }
    }

    /** "a site: op + 256 class + 65536 name + 16777216 shape or kind, as one of 64 bits": least and greatest parts. */
    private static void sealedSites() {
        int[][] all = {{Ops.STATIC, 0, 1, 0}, {Ops.STATIC, 7, 31, 60}, {Ops.GETS, 0, 0, 0}, {Ops.GETS, 7, 31, 1}};
        for (int[] one : all) {
            SiteSealer x = classes(-1, -1, -1, -1, -1, -1, -1, -1);
            x.ref(0, one[0] == Ops.GETS, one[1], one[2], one[3]);
            Ops.main(x, 0, 1, one[0], 0, Ops.POP, 0, Ops.LOAD, 0, Ops.RET, 0);
            due.is("hidden", x.seal(-4), 1);
            long site = one[0] + 256L * one[1] + 65536L * one[2] + 16777216L * one[3];
            due.is("site", x.entry(true, 0, 1, 1), Formulas.closed(site, Formulas.sealOf(-4, 0, 1), 64).longValue());
            due.is("sort", x.entry(true, 0, 1, 0), 9);
            due.is("length", x.entry(true, 0, 1, 2), 0);
            due.is("right", x.wrong(true, 0, 0), -1);
        }
    }

    /** "IllegalStateException when a method is wrong": any, of any class. */
    private static void wrongMethodIsNotSealed() {
        for (int c = 0; c < 8; c += 7) {
            for (int m = 0; m < 6; m += 5) {
                SiteSealer x = classes(-1, 0, 1, 2, 3, 4, 5, 6);
                for (int i = 0; i < 6; i++) {
                    x.method(c, 1 + i, 0, 1, 0);
                    if (i != m) {
                        x.op(c, i, Ops.GOTO, 0);
                    }
                }
                due.fails("method " + m + " of class " + c, STATE, () -> x.seal(1));
                due.fails("no copy came of it", STATE, () -> x.pool(true, 0));
                due.is("none left", x.left(), 0);
                x.op(c, m, Ops.GOTO, 0);
                due.is("all are right", x.seal(1), 0);
            }
        }
    }

    /** "so does sealing anew": the copy is made of the classes, not of the copy. */
    private static void sealingAnew() {
        SiteSealer x = constants(1, 77, 0);
        x.seal(1);
        x.run(true, 0, 1, 0, 9);
        due.is("told", x.told(true, -1), 3);
        due.is("the same key", x.seal(1), 3);
        due.is("what the copy's run told is taken away", x.told(true, -1), 0);
        due.fails("its status, too", BOUNDS, () -> x.told(true, -2));
        due.is("three entries behind the others", x.pool(true, 0), 6);
        checkConstants(x, 2, 1, 77, 3);
        checkConstants(x, 1, 1, 77, 3);
        SiteSealer y = filled(withRef(false, 5, 0));
        reason("left before", y, "", Ops.STATIC, 0, 4);
        due.is("sealed anew", y.seal(2), 0);
        due.is("left once, not twice", y.left(), 1);
    }

    /** What has been opened, or met, in an earlier copy is not taken for what stands in its place now. */
    private static void sealingAnewBehindMore() {
        SiteSealer x = classes(-1);
        x.number(0, 5, false);
        x.number(0, 6, true);
        x.string(0, 0x41, 1);
        x.field(0, 1, 0, 1);
        x.ref(0, true, 0, 1, 0);
        Ops.main(x, 0, 1, Ops.PUSH, 0, Ops.OUT, 0, Ops.PUSH, 1, Ops.OUT, 0, Ops.PUSH, 2, Ops.SAY, 0, Ops.PUSH, 1, Ops.PUTS, 3,
                Ops.GETS, 3, Ops.OUT, 0, Ops.LOAD, 0, Ops.RET, 0);
        for (int i = 0; i < 5; i++) {
            due.is("hidden", x.seal(7), 6);
            due.is("run", x.run(true, 0, 1, 0, 99), 0);
            due.text("rows", Ops.rows(x, true), "5:0 1:5 1:6 2:65 1:6");
            x.number(0, 9, true);
        }
    }

    private static void theClassesStayAsTheyAre() {
        SiteSealer x = constants(1, 77, 0);
        x.seal(1);
        due.is("pool", x.pool(false, 0), 3);
        due.fails("entry 3", NONE, () -> x.entry(false, 0, 3, 0));
        due.is("op", x.code(false, 0, 0, 0, 0), Ops.PUSH);
        due.is("op in the copy", x.code(true, 0, 0, 0, 0), Ops.OPEN);
        due.is("an entry behind takes the place", x.number(0, 1, true), 3);
        due.fails("and the copy away", STATE, () -> x.pool(true, 0));
    }

    /** "How many instructions were left; 0 without a copy." */
    private static void leftWithoutCopy() {
        SiteSealer x = filled(withRef(false, 5, 0));
        due.is("before", x.left(), 0);
        due.fails("leftAt before", NONE, () -> x.leftAt(0, 0));
        reason("one is left", x, "", Ops.STATIC, 0, 4);
        due.is("with a copy", x.left(), 1);
        x.field(0, 1, 0, 0);
        due.is("the copy is taken away", x.left(), 0);
        due.fails("leftAt", NONE, () -> x.leftAt(0, 0));
        due.fails("leftAt, another what", NONE, () -> x.leftAt(0, 4));
    }

    /** "NoSuchElementException when there is none; IndexOutOfBoundsException for another what." */
    private static void leftAtBounds() {
        SiteSealer x = filled(withRef(false, 5, 0));
        Ops.main(x, 0, 1, Ops.STATIC, 0, Ops.OUT, 0, Ops.PUSH, 1, Ops.RET, 0);
        x.seal(1);
        due.is("left", x.left(), 2);
        for (int k : new int[] {-1, 2, 3, FAR[0], FAR[1]}) {
            due.fails("k = " + k, NONE, () -> x.leftAt(k, 0));
        }
        for (int what : new int[] {-1, 4, 5, FAR[0], FAR[1]}) {
            due.fails("what = " + what, BOUNDS, () -> x.leftAt(0, what));
            due.fails("what = " + what, BOUNDS, () -> x.leftAt(1, what));
        }
        left(x, 0, 0, 0, 0, 4);
        left(x, 1, 0, 0, 2, 4);
        x.type(-1);
        x.seal(1);
        SiteSealer y = classes(-1);
        y.seal(1);
        due.fails("of none", NONE, () -> y.leftAt(0, 0));
    }

    /** "How many entries a pool has. IllegalStateException; NoSuchElementException." */
    private static void poolBounds() {
        SiteSealer x = classes(-1, -1);
        x.number(1, 1, true);
        due.fails("without a copy", STATE, () -> x.pool(true, 0));
        x.seal(1);
        for (int s = 0; s < 2; s++) {
            boolean sealed = s == 1;
            due.is("empty", x.pool(sealed, 0), 0);
            due.is("one", x.pool(sealed, 1), 1);
            for (int c : new int[] {-1, 2, 8, FAR[0], FAR[1]}) {
                due.fails("class " + c, NONE, () -> x.pool(sealed, c));
            }
        }
    }

    /** "0 its sort (1 .. 9), 1 its number ..; 2 a string's length (8, too; 0 of others)". */
    private static void entryBounds() {
        SiteSealer x = constants(1, 1, 0);
        due.fails("without a copy", STATE, () -> x.entry(true, 0, 0, 0));
        x.seal(1);
        SiteSealer y = withRef(false, 5, 0);
        y.ref(0, true, 0, 5, 0);
        due.is("sort of a method", y.entry(false, 0, 0, 0), 4);
        due.is("length of a method", y.entry(false, 0, 0, 2), 0);
        due.is("sort of a field", y.entry(false, 0, 1, 0), 5);
        due.is("length of a field", y.entry(false, 0, 1, 2), 0);
        int[] lengths = {0, 0, 8, 0, 8, 0};
        int[] sorts = {1, 2, 3, 6, 8, 7};
        for (int j = 0; j < 6; j++) {
            due.is("sort of " + j, x.entry(true, 0, j, 0), sorts[j]);
            due.is("length of " + j, x.entry(true, 0, j, 2), lengths[j]);
        }
        for (int s = 0; s < 2; s++) {
            boolean sealed = s == 1;
            int size = sealed ? 6 : 3;
            for (int j : new int[] {-1, size, 32, FAR[0], FAR[1]}) {
                due.fails("entry " + j, NONE, () -> x.entry(sealed, 0, j, 0));
            }
            for (int c : new int[] {-1, 1, 8, FAR[0], FAR[1]}) {
                due.fails("class " + c, NONE, () -> x.entry(sealed, c, 0, 0));
            }
            for (int what : new int[] {-1, 3, FAR[0], FAR[1]}) {
                due.fails("what = " + what, BOUNDS, () -> x.entry(sealed, 0, size - 1, what));
            }
        }
    }

    /** "Of an instruction: its op (what = 0), or a (1). IllegalStateException; NoSuchElementException; ..". */
    private static void codeBounds() {
        SiteSealer x = constants(1, 1, 0);
        due.fails("without a copy", STATE, () -> x.code(true, 0, 0, 0, 0));
        x.seal(1);
        for (int s = 0; s < 2; s++) {
            boolean sealed = s == 1;
            due.is("the first op", x.code(sealed, 0, 0, 0, 0), sealed ? Ops.OPEN : Ops.PUSH);
            due.is("the last op", x.code(sealed, 0, 0, 5, 0), Ops.RET);
            for (int i : new int[] {-1, 6, 40, FAR[0], FAR[1]}) {
                due.fails("instruction " + i, NONE, () -> x.code(sealed, 0, 0, i, 0));
            }
            for (int m : new int[] {-1, 1, 6, FAR[0], FAR[1]}) {
                due.fails("method " + m, NONE, () -> x.code(sealed, 0, m, 0, 0));
            }
            for (int c : new int[] {-1, 1, 8, FAR[0], FAR[1]}) {
                due.fails("class " + c, NONE, () -> x.code(sealed, c, 0, 0, 0));
            }
            for (int what : new int[] {-1, 2, FAR[0], FAR[1]}) {
                due.fails("what = " + what, BOUNDS, () -> x.code(sealed, 0, 0, 5, what));
            }
        }
    }
}
