import java.util.Arrays;
import java.util.NoSuchElementException;

/**
 * Hides what classes say and whom they call, and runs the classes and their sealed copy.
 * Everything an object ever needs is made with it; no later call makes anything.
 */
public final class SiteSealer {
    private static final int NONE = -1;

    private static final int MAX_CLASSES = 8;
    private static final int MAX_ENTRIES = 32;
    private static final int MAX_MEMBERS = 6;
    private static final int MAX_CODE = 40;
    private static final int MAX_STACK = 8;
    private static final int MAX_LOCALS = 8;
    private static final int MAX_DEPTH = 16;
    private static final int MAX_OBJECTS = 40;
    private static final int MAX_ROWS = 300;
    private static final int MAX_STEPS = 3000;
    private static final int MAX_NAME = 31;
    private static final int MAX_SHAPE = 63;
    private static final int MAX_TAKEN_BY_SITE = 3;
    private static final int ALL_MEMBERS = MAX_CLASSES * MAX_MEMBERS;
    /** Each turn of a run does an instruction, begins to initialise a class, or is the last one. */
    private static final int MAX_TURNS = MAX_STEPS + MAX_CLASSES + 1;

    private static final int INIT = 0;

    private static final int NUMBER = 0;
    private static final int REFERENCE = 1;

    private static final int STATIC_FLAG = 1;
    private static final int FINAL_FLAG = 2;
    private static final int PRIVATE_FLAG = 4;

    private static final int SORT_INT = 1;
    private static final int SORT_LONG = 2;
    private static final int SORT_STRING = 3;
    private static final int SORT_METHOD = 4;
    private static final int SORT_FIELD = 5;
    private static final int SORT_SEALED_INT = 6;
    private static final int SORT_SEALED_STRING = 8;
    private static final int SORT_SITE = 9;
    /** From the sort of a constant to the sort of the sealed one. */
    private static final int TO_SEALED = 5;

    private static final int PUSH = 0;
    private static final int NULL = 1;
    private static final int LOAD = 2;
    private static final int STORE = 3;
    private static final int ADD = 4;
    private static final int SUB = 5;
    private static final int MUL = 6;
    private static final int XOR = 7;
    private static final int LESS = 8;
    private static final int SAME = 9;
    private static final int ZERO = 10;
    private static final int GOTO = 11;
    private static final int NEW = 12;
    private static final int STATIC = 13;
    private static final int VIRTUAL = 14;
    private static final int GETS = 15;
    private static final int PUTS = 16;
    private static final int GETF = 17;
    private static final int PUTF = 18;
    private static final int OUT = 19;
    private static final int SAY = 20;
    private static final int RET = 21;
    private static final int POP = 22;
    private static final int DUP = 23;
    private static final int OPEN = 24;
    private static final int MEET = 25;

    private static final int RUNNING = -1;
    private static final int ENDED = 0;
    private static final int OUT_OF_STEPS = 1;
    private static final int NULL_MET = 2;
    private static final int UNFIT = 3;
    private static final int MISSING = 4;
    private static final int BARRED = 5;
    private static final int TOO_DEEP = 6;
    private static final int TOO_MANY_OBJECTS = 7;
    private static final int TOO_MANY_ROWS = 8;

    private static final int ROW_NUMBER = 1;
    private static final int ROW_STRING = 2;
    private static final int ROW_OBJECT = 3;
    private static final int ROW_NULL = 4;
    private static final int ROW_CLASS = 5;

    private static final int LEFT_INIT = 1;
    private static final int LEFT_WIDE = 2;
    private static final int LEFT_FINAL = 3;
    private static final int LEFT_FULL = 4;

    private static final int UNKNOWN = 0;
    private static final int SOUND = 1;
    private static final int UNSOUND = 2;

    private final Classes plain = new Classes();
    private final Account plainAccount = new Account();
    private final Account sealedAccount = new Account();
    private final Sealer sealer = new Sealer();
    private final Checker checker = new Checker(plain);
    private final Machine machine = new Machine(plain, plainAccount);
    private boolean hasCopy = false;
    /** Whether a method is wrong, kept until something is added: each run asks it of all methods. */
    private int soundness = UNKNOWN;

    public SiteSealer() {
    }

    public int type(int parent) throws IllegalArgumentException, UnsupportedOperationException {
        if (parent != NONE && !plain.has(parent)) {
            throw new IllegalArgumentException("no such super");
        }
        if (plain.size == MAX_CLASSES) {
            throw new UnsupportedOperationException("no room for a class");
        }
        forgetCopy();
        return plain.add(parent);
    }

    public int field(int type, int name, int kind, int flags)
            throws NoSuchElementException, IllegalArgumentException, IllegalStateException,
            UnsupportedOperationException {
        needClass(plain, type);
        if (!isWithin(name, 1, MAX_NAME) || !isWithin(kind, NUMBER, REFERENCE) || !isWithin(flags, 0, 7)) {
            throw new IllegalArgumentException("not within its bounds");
        }
        Klass klass = plain.all[type];
        if (klass.fieldCalled(name, kind) != NONE) {
            throw new IllegalStateException("the class has such a field");
        }
        if (klass.fields == MAX_MEMBERS) {
            throw new UnsupportedOperationException("no room for a field");
        }
        forgetCopy();
        return klass.addField(name, kind, flags);
    }

    public int method(int type, int name, int shape, int flags, int locals)
            throws NoSuchElementException, IllegalArgumentException, IllegalStateException,
            UnsupportedOperationException {
        needClass(plain, type);
        if (!isWithin(name, 0, MAX_NAME) || !isWithin(shape, 0, MAX_SHAPE) || !isWithin(locals, 0, 255)
                || (flags & ~(STATIC_FLAG | PRIVATE_FLAG)) != 0) {
            throw new IllegalArgumentException("not within its bounds");
        }
        if (name == INIT && (shape != 0 || !isStatic(flags))) {
            throw new IllegalArgumentException("a method 0 that is not an INIT");
        }
        Klass klass = plain.all[type];
        if (klass.methodCalled(name, shape) != NONE) {
            throw new IllegalStateException("the class has such a method");
        }
        if (klass.methodCount == MAX_MEMBERS) {
            throw new UnsupportedOperationException("no room for a method");
        }
        forgetCopy();
        return klass.addMethod(name, shape, flags, locals);
    }

    public int number(int type, long v, boolean wide)
            throws NoSuchElementException, UnsupportedOperationException {
        needClass(plain, type);
        if (wide) {
            return addEntry(type, SORT_LONG, v, 0);
        }
        return addEntry(type, SORT_INT, (int) v, 0);
    }

    public int string(int type, long bytes, int n)
            throws NoSuchElementException, IllegalArgumentException, UnsupportedOperationException {
        needClass(plain, type);
        if (!isWithin(n, 0, 8)) {
            throw new IllegalArgumentException("a string has 0 to 8 bytes");
        }
        long mask = n == 8 ? -1L : (1L << 8 * n) - 1;
        return addEntry(type, SORT_STRING, bytes & mask, n);
    }

    public int ref(int type, boolean isField, int owner, int name, int shape)
            throws NoSuchElementException, IllegalArgumentException, UnsupportedOperationException {
        needClass(plain, type);
        needClass(plain, owner);
        if (!isWithin(name, 0, MAX_NAME) || !isWithin(shape, 0, isField ? REFERENCE : MAX_SHAPE)) {
            throw new IllegalArgumentException("not within its bounds");
        }
        return addEntry(type, isField ? SORT_FIELD : SORT_METHOD, owner + 256L * name + 65536L * shape, 0);
    }

    public int op(int type, int method, int op, int a)
            throws NoSuchElementException, IllegalArgumentException, UnsupportedOperationException {
        needMethod(plain, type, method);
        if (!isWithin(op, PUSH, DUP)) {
            throw new IllegalArgumentException("no such op");
        }
        Method behind = plain.all[type].methods[method];
        if (behind.size == MAX_CODE) {
            throw new UnsupportedOperationException("no room for an instruction");
        }
        forgetCopy();
        return behind.add(op, a);
    }

    public int wrong(boolean sealed, int type, int method) throws IllegalStateException, NoSuchElementException {
        Classes classes = chosen(sealed);
        needMethod(classes, type, method);
        return checker.firstWrong(classes, type, method);
    }

    public int seal(long key) throws IllegalStateException {
        if (!isSound()) {
            throw new IllegalStateException("a method is wrong");
        }
        sealedAccount.forget();
        hasCopy = true;
        return sealer.makeCopy(plain, key);
    }

    public int left() {
        return hasCopy ? sealer.leftCount : 0;
    }

    public int leftAt(int k, int what) throws NoSuchElementException, IndexOutOfBoundsException {
        if (!hasCopy || !isWithin(k, 0, sealer.leftCount - 1)) {
            throw new NoSuchElementException("no such instruction was left");
        }
        if (!isWithin(what, 0, 3)) {
            throw new IndexOutOfBoundsException("what is 0 to 3");
        }
        return sealer.partOfLeft(k, what);
    }

    public int pool(boolean sealed, int type) throws IllegalStateException, NoSuchElementException {
        Classes classes = chosen(sealed);
        needClass(classes, type);
        return classes.all[type].pool.size;
    }

    public long entry(boolean sealed, int type, int j, int what)
            throws IllegalStateException, NoSuchElementException, IndexOutOfBoundsException {
        Classes classes = chosen(sealed);
        needClass(classes, type);
        Pool pool = classes.all[type].pool;
        if (!pool.has(j)) {
            throw new NoSuchElementException("no such entry");
        }
        if (!isWithin(what, 0, 2)) {
            throw new IndexOutOfBoundsException("what is 0 to 2");
        }
        if (what == 0) {
            return pool.sort[j];
        }
        return what == 1 ? pool.value[j] : pool.length[j];
    }

    public int code(boolean sealed, int type, int method, int i, int what)
            throws IllegalStateException, NoSuchElementException, IndexOutOfBoundsException {
        Classes classes = chosen(sealed);
        needMethod(classes, type, method);
        Method asked = classes.all[type].methods[method];
        if (!isWithin(i, 0, asked.size - 1)) {
            throw new NoSuchElementException("no such instruction");
        }
        if (!isWithin(what, 0, 1)) {
            throw new IndexOutOfBoundsException("what is 0 or 1");
        }
        return what == 0 ? asked.ops[i] : asked.as[i];
    }

    public int run(boolean sealed, int type, int name, int shape, int steps)
            throws IllegalStateException, NoSuchElementException, IllegalArgumentException {
        Classes classes = chosen(sealed);
        if (!isSound()) {
            throw new IllegalStateException("a method is wrong");
        }
        needClass(classes, type);
        int place = classes.findMethod(type, name, shape);
        if (place == NONE || !isStatic(classes.methodAt(place).flags)) {
            throw new NoSuchElementException("no such static method");
        }
        if (argumentsOf(shape) != 0 || !isWithin(steps, 0, MAX_STEPS)) {
            throw new IllegalArgumentException("arguments, or steps not within their bounds");
        }
        Account account = sealed ? sealedAccount : plainAccount;
        machine.begin(classes, place, steps, account);
        for (int turn = 0; turn < MAX_TURNS && account.status == RUNNING; turn++) {
            machine.takeTurn();
        }
        return account.status;
    }

    public long told(boolean sealed, int what) throws IndexOutOfBoundsException {
        Account account = sealed ? sealedAccount : plainAccount;
        if (!account.has(what)) {
            throw new IndexOutOfBoundsException("the run did not tell this");
        }
        return account.answer(what);
    }

    public boolean alike() {
        return plainAccount.isOfRun && sealedAccount.isOfRun && plainAccount.tellsSame(sealedAccount);
    }

    private void forgetCopy() {
        hasCopy = false;
        sealedAccount.forget();
        soundness = UNKNOWN;
    }

    private int addEntry(int type, int sort, long value, int length) {
        Pool pool = plain.all[type].pool;
        if (pool.isFull()) {
            throw new UnsupportedOperationException("no room for an entry");
        }
        forgetCopy();
        return pool.add(sort, value, length);
    }

    private Classes chosen(boolean sealed) {
        if (sealed && !hasCopy) {
            throw new IllegalStateException("there is no copy");
        }
        return sealed ? sealer.copy : plain;
    }

    private boolean isSound() {
        if (soundness != UNKNOWN) {
            return soundness == SOUND;
        }
        soundness = SOUND;
        for (int c = 0; c < plain.size && soundness == SOUND; c++) {
            for (int m = 0; m < plain.all[c].methodCount && soundness == SOUND; m++) {
                if (checker.firstWrong(plain, c, m) != NONE) {
                    soundness = UNSOUND;
                }
            }
        }
        return soundness == SOUND;
    }

    private static void needClass(Classes classes, int type) {
        if (!classes.has(type)) {
            throw new NoSuchElementException("no such class");
        }
    }

    private static void needMethod(Classes classes, int type, int method) {
        needClass(classes, type);
        if (!isWithin(method, 0, classes.all[type].methodCount - 1)) {
            throw new NoSuchElementException("no such method");
        }
    }

    private static boolean isWithin(int x, int low, int high) {
        return x >= low && x <= high;
    }

    private static boolean isStatic(int flags) {
        return (flags & STATIC_FLAG) != 0;
    }

    private static boolean isPrivate(int flags) {
        return (flags & PRIVATE_FLAG) != 0;
    }

    private static int argumentsOf(int shape) {
        return shape & 3;
    }

    private static int kindOfArgument(int shape, int i) {
        return shape >> 2 + i & 1;
    }

    private static int kindOfResult(int shape) {
        return shape >> 5 & 1;
    }

    /** A site is op + 256 class + 65536 name + 16777216 shape or kind; an entry of a member is the same without op. */
    private static int opOfSite(long site) {
        return (int) (site & 255);
    }

    private static int ownerOfSite(long site) {
        return (int) (site >> 8 & 255);
    }

    private static int nameOfSite(long site) {
        return (int) (site >> 16 & 255);
    }

    private static int shapeOfSite(long site) {
        return (int) (site >> 24 & 255);
    }

    private static boolean isOfSite(int op) {
        return op >= STATIC && op <= PUTF || op == MEET;
    }

    private static boolean isOfMethod(int op) {
        return op == STATIC || op == VIRTUAL;
    }

    private static boolean wantsStatic(int op) {
        return op == STATIC || op == GETS || op == PUTS;
    }

    /** How many a site's op takes, the receiver among them. */
    private static int takenBySite(long site) {
        switch (opOfSite(site)) {
            case STATIC:
                return argumentsOf(shapeOfSite(site));
            case VIRTUAL:
                return argumentsOf(shapeOfSite(site)) + 1;
            case PUTF:
                return 2;
            case GETS:
                return 0;
            default:
                return 1;
        }
    }

    /** The entries of a class, and the seal of those that are sealed. */
    static final class Pool {
        final int[] sort = new int[MAX_ENTRIES];
        final long[] value = new long[MAX_ENTRIES];
        final int[] length = new int[MAX_ENTRIES];
        int size = 0;
        private final long[] opened = new long[MAX_ENTRIES];
        private final boolean[] isOpened = new boolean[MAX_ENTRIES];
        private long classKey = 0;

        boolean has(int j) {
            return isWithin(j, 0, size - 1);
        }

        boolean isFull() {
            return size == MAX_ENTRIES;
        }

        int add(int newSort, long newValue, int newLength) {
            sort[size] = newSort;
            value[size] = newValue;
            length[size] = newLength;
            isOpened[size] = false;
            size++;
            return size - 1;
        }

        void becomeCopy(Pool other, long key, int type) {
            System.arraycopy(other.sort, 0, sort, 0, other.size);
            System.arraycopy(other.value, 0, value, 0, other.size);
            System.arraycopy(other.length, 0, length, 0, other.size);
            size = other.size;
            classKey = mix(key + type);
        }

        int addSealed(int sealedSort, long clear, int clearLength) {
            return add(sealedSort, closed(sealedSort, clear, keyOf(size)), clearLength);
        }

        /** What PUSH or OPEN of an entry pushes; of a site what it hides. */
        long openValue(int j) {
            if (sort[j] < SORT_SEALED_INT) {
                return value[j];
            }
            if (!isOpened[j]) {
                opened[j] = open(sort[j], value[j], keyOf(j));
                isOpened[j] = true;
            }
            return opened[j];
        }

        /** The site of an instruction, or NONE if its entry is none or of another sort. */
        long siteAt(int op, int a) {
            if (!has(a)) {
                return NONE;
            }
            if (op == MEET) {
                return sort[a] == SORT_SITE ? openValue(a) : NONE;
            }
            int due = isOfMethod(op) ? SORT_METHOD : SORT_FIELD;
            return sort[a] == due ? op + 256 * value[a] : NONE;
        }

        private long keyOf(int j) {
            return mix(classKey ^ (j + 1));
        }

        private static long closed(int sealedSort, long v, long key) {
            if (sealedSort == SORT_SEALED_STRING) {
                return v ^ key;
            }
            long factor = mix(key) | 1;
            if (sealedSort == SORT_SEALED_INT) {
                int product = ((int) v ^ (int) key) * (int) factor;
                return Integer.rotateLeft(product, (int) (key >>> 59)) & 0xffffffffL;
            }
            return Long.rotateLeft((v ^ key) * factor, (int) (key >>> 58));
        }

        private static long open(int sealedSort, long v, long key) {
            if (sealedSort == SORT_SEALED_STRING) {
                return v ^ key;
            }
            long factor = inverseOf(mix(key) | 1);
            if (sealedSort == SORT_SEALED_INT) {
                int product = Integer.rotateRight((int) v, (int) (key >>> 59));
                return product * (int) factor ^ (int) key;
            }
            return Long.rotateRight(v, (int) (key >>> 58)) * factor ^ key;
        }

        private static long mix(long x) {
            long y = x ^ x >>> 29;
            y *= 0x9e3779b97f4a7c15L;
            y ^= y >>> 32;
            y *= 0xd6e8feb86659fd93L;
            return y ^ y >>> 29;
        }

        /** An odd number is its own inverse in three bits, and each round doubles how many are right. */
        private static long inverseOf(long odd) {
            long inverse = odd;
            for (int round = 0; round < 5; round++) {
                inverse *= 2 - odd * inverse;
            }
            return inverse;
        }
    }

    static final class Method {
        int name = 0;
        int shape = 0;
        int flags = 0;
        int locals = 0;
        final int[] ops = new int[MAX_CODE];
        final int[] as = new int[MAX_CODE];
        int size = 0;

        void begin(int newName, int newShape, int newFlags, int newLocals) {
            name = newName;
            shape = newShape;
            flags = newFlags;
            locals = newLocals;
            size = 0;
        }

        int add(int op, int a) {
            ops[size] = op;
            as[size] = a;
            size++;
            return size - 1;
        }

        void becomeCopy(Method other) {
            begin(other.name, other.shape, other.flags, other.locals);
            System.arraycopy(other.ops, 0, ops, 0, other.size);
            System.arraycopy(other.as, 0, as, 0, other.size);
            size = other.size;
        }

        int kindOfLocal(int i) {
            int receivers = isStatic(flags) ? 0 : 1;
            if (i < receivers) {
                return REFERENCE;
            }
            if (i - receivers < argumentsOf(shape)) {
                return kindOfArgument(shape, i - receivers);
            }
            return locals >> i & 1;
        }
    }

    static final class Klass {
        int parent = NONE;
        final Pool pool = new Pool();
        final int[] fieldNames = new int[MAX_MEMBERS];
        final int[] fieldKinds = new int[MAX_MEMBERS];
        final int[] fieldFlags = new int[MAX_MEMBERS];
        int fields = 0;
        final Method[] methods = new Method[MAX_MEMBERS];
        int methodCount = 0;

        Klass() {
            for (int m = 0; m < MAX_MEMBERS; m++) {
                methods[m] = new Method();
            }
        }

        int addField(int name, int kind, int flags) {
            fieldNames[fields] = name;
            fieldKinds[fields] = kind;
            fieldFlags[fields] = flags;
            fields++;
            return fields - 1;
        }

        int addMethod(int name, int shape, int flags, int locals) {
            methods[methodCount].begin(name, shape, flags, locals);
            methodCount++;
            return methodCount - 1;
        }

        int fieldCalled(int name, int kind) {
            for (int f = 0; f < fields; f++) {
                if (fieldNames[f] == name && fieldKinds[f] == kind) {
                    return f;
                }
            }
            return NONE;
        }

        int methodCalled(int name, int shape) {
            for (int m = 0; m < methodCount; m++) {
                if (methods[m].name == name && methods[m].shape == shape) {
                    return m;
                }
            }
            return NONE;
        }

        void becomeCopy(Klass other, long key, int type) {
            parent = other.parent;
            pool.becomeCopy(other.pool, key, type);
            fields = other.fields;
            System.arraycopy(other.fieldNames, 0, fieldNames, 0, fields);
            System.arraycopy(other.fieldKinds, 0, fieldKinds, 0, fields);
            System.arraycopy(other.fieldFlags, 0, fieldFlags, 0, fields);
            methodCount = other.methodCount;
            for (int m = 0; m < methodCount; m++) {
                methods[m].becomeCopy(other.methods[m]);
            }
        }
    }

    /** All classes. The place of a member is its class times MAX_MEMBERS, and its number there. */
    static final class Classes {
        final Klass[] all = new Klass[MAX_CLASSES];
        int size = 0;

        Classes() {
            for (int c = 0; c < MAX_CLASSES; c++) {
                all[c] = new Klass();
            }
        }

        boolean has(int type) {
            return isWithin(type, 0, size - 1);
        }

        int add(int parent) {
            all[size].parent = parent;
            size++;
            return size - 1;
        }

        void becomeCopy(Classes other, long key) {
            size = other.size;
            for (int c = 0; c < size; c++) {
                all[c].becomeCopy(other.all[c], key, c);
            }
        }

        Method methodAt(int place) {
            return all[place / MAX_MEMBERS].methods[place % MAX_MEMBERS];
        }

        int fieldFlagsAt(int place) {
            return all[place / MAX_MEMBERS].fieldFlags[place % MAX_MEMBERS];
        }

        int findField(int type, int name, int kind) {
            int c = type;
            for (int hop = 0; hop < MAX_CLASSES && c != NONE; hop++) {
                int f = all[c].fieldCalled(name, kind);
                if (f != NONE) {
                    return c * MAX_MEMBERS + f;
                }
                c = all[c].parent;
            }
            return NONE;
        }

        int findMethod(int type, int name, int shape) {
            if (name == INIT) {
                return NONE;
            }
            return findMethodWithout(0, type, name, shape);
        }

        int findVirtual(int type, int name, int shape) {
            return findMethodWithout(STATIC_FLAG | PRIVATE_FLAG, type, name, shape);
        }

        boolean isInLineOf(int upper, int type) {
            int c = type;
            for (int hop = 0; hop < MAX_CLASSES && c != NONE; hop++) {
                if (c == upper) {
                    return true;
                }
                c = all[c].parent;
            }
            return false;
        }

        int topmostOutside(boolean[] done, int type) {
            int topmost = NONE;
            int c = type;
            for (int hop = 0; hop < MAX_CLASSES && c != NONE; hop++) {
                if (!done[c]) {
                    topmost = c;
                }
                c = all[c].parent;
            }
            return topmost;
        }

        private int findMethodWithout(int barredFlags, int type, int name, int shape) {
            int c = type;
            for (int hop = 0; hop < MAX_CLASSES && c != NONE; hop++) {
                int m = all[c].methodCalled(name, shape);
                if (m != NONE && (all[c].methods[m].flags & barredFlags) == 0) {
                    return c * MAX_MEMBERS + m;
                }
                c = all[c].parent;
            }
            return NONE;
        }
    }

    /** Goes through a method's code with the kinds of what would be on the stack. */
    static final class Checker {
        private final int[] kinds = new int[MAX_STACK];
        private final boolean[] isTarget = new boolean[MAX_CODE];
        private int top = 0;
        private boolean fits = true;
        private Classes classes;
        private Pool pool;
        private Method method;

        Checker(Classes first) {
            classes = first;
            pool = first.all[0].pool;
            method = first.all[0].methods[0];
        }

        int firstWrong(Classes asked, int type, int number) {
            classes = asked;
            pool = asked.all[type].pool;
            method = asked.all[type].methods[number];
            top = 0;
            fits = true;
            markTargets();
            for (int i = 0; i < method.size; i++) {
                if (top > 0 && isTarget[i]) {
                    return i;
                }
                if (isOfSite(method.ops[i])) {
                    goThroughSite(pool.siteAt(method.ops[i], method.as[i]));
                } else {
                    goThrough(method.ops[i], method.as[i]);
                }
                if (!fits) {
                    return i;
                }
            }
            return endsWell() ? NONE : method.size;
        }

        private void markTargets() {
            for (int i = 0; i < method.size; i++) {
                isTarget[i] = false;
            }
            for (int i = 0; i < method.size; i++) {
                boolean jumps = method.ops[i] == ZERO || method.ops[i] == GOTO;
                if (jumps && isWithin(method.as[i], 0, method.size - 1)) {
                    isTarget[method.as[i]] = true;
                }
            }
        }

        private boolean endsWell() {
            if (method.size == 0) {
                return false;
            }
            int last = method.ops[method.size - 1];
            return last == GOTO || last == RET;
        }

        private void goThrough(int op, int a) {
            switch (op) {
                case PUSH:
                    putConstant(a, SORT_INT, SORT_STRING);
                    break;
                case OPEN:
                    putConstant(a, SORT_SEALED_INT, SORT_SEALED_STRING);
                    break;
                case NULL:
                    put(REFERENCE);
                    break;
                case LOAD:
                case STORE:
                    goThroughLocal(op, a);
                    break;
                case SAME:
                    take(REFERENCE);
                    take(REFERENCE);
                    put(NUMBER);
                    break;
                case ZERO:
                    take(NUMBER);
                    jump(a);
                    break;
                case GOTO:
                    jump(a);
                    break;
                case NEW:
                    fits = classes.has(a);
                    put(REFERENCE);
                    break;
                case OUT:
                    take(NUMBER);
                    break;
                case SAY:
                    take(REFERENCE);
                    break;
                case RET:
                    take(kindOfResult(method.shape));
                    fits = fits && top == 0;
                    break;
                case POP:
                    takeAny();
                    break;
                case DUP:
                    twice();
                    break;
                default:
                    take(NUMBER);
                    take(NUMBER);
                    put(NUMBER);
            }
        }

        private void goThroughSite(long site) {
            if (site == NONE) {
                fits = false;
                return;
            }
            int shape = shapeOfSite(site);
            switch (opOfSite(site)) {
                case STATIC:
                    takeArguments(shape);
                    put(kindOfResult(shape));
                    break;
                case VIRTUAL:
                    takeArguments(shape);
                    take(REFERENCE);
                    put(kindOfResult(shape));
                    break;
                case GETS:
                    put(shape);
                    break;
                case PUTS:
                    take(shape);
                    break;
                case GETF:
                    take(REFERENCE);
                    put(shape);
                    break;
                default:
                    take(shape);
                    take(REFERENCE);
            }
        }

        private void goThroughLocal(int op, int a) {
            if (!isWithin(a, 0, MAX_LOCALS - 1)) {
                fits = false;
            } else if (op == LOAD) {
                put(method.kindOfLocal(a));
            } else {
                take(method.kindOfLocal(a));
            }
        }

        private void putConstant(int a, int firstSort, int stringSort) {
            if (pool.has(a) && isWithin(pool.sort[a], firstSort, stringSort)) {
                put(pool.sort[a] == stringSort ? REFERENCE : NUMBER);
            } else {
                fits = false;
            }
        }

        private void jump(int a) {
            fits = fits && top == 0 && isWithin(a, 0, method.size - 1);
        }

        private void takeArguments(int shape) {
            for (int i = argumentsOf(shape) - 1; i >= 0; i--) {
                take(kindOfArgument(shape, i));
            }
        }

        private void take(int kind) {
            if (top > 0 && kinds[top - 1] == kind) {
                top--;
            } else {
                fits = false;
            }
        }

        private void takeAny() {
            if (top > 0) {
                top--;
            } else {
                fits = false;
            }
        }

        private void put(int kind) {
            if (top < MAX_STACK) {
                kinds[top] = kind;
                top++;
            } else {
                fits = false;
            }
        }

        private void twice() {
            if (top > 0) {
                put(kinds[top - 1]);
            } else {
                fits = false;
            }
        }
    }

    /** Makes the sealed copy, and keeps what was left. */
    static final class Sealer {
        final Classes copy = new Classes();
        int leftCount = 0;
        private int hiddenCount = 0;
        private final int[] left = new int[ALL_MEMBERS * MAX_CODE];

        int makeCopy(Classes plain, long key) {
            leftCount = 0;
            hiddenCount = 0;
            copy.becomeCopy(plain, key);
            for (int c = 0; c < copy.size; c++) {
                for (int m = 0; m < copy.all[c].methodCount; m++) {
                    hideAll(c, m);
                }
            }
            return hiddenCount;
        }

        int partOfLeft(int k, int what) {
            return left[k] >> 8 * what & 255;
        }

        private void hideAll(int type, int number) {
            Pool pool = copy.all[type].pool;
            Method method = copy.all[type].methods[number];
            for (int i = 0; i < method.size; i++) {
                if (!isHideable(method.ops[i])) {
                    continue;
                }
                int reason = reasonToLeave(pool, method.ops[i], method.as[i]);
                if (reason == 0) {
                    hide(pool, method, i);
                } else {
                    left[leftCount] = type | number << 8 | i << 16 | reason << 24;
                    leftCount++;
                }
            }
        }

        private static boolean isHideable(int op) {
            return op == PUSH || isOfSite(op);
        }

        private int reasonToLeave(Pool pool, int op, int a) {
            if (op != PUSH) {
                long site = pool.siteAt(op, a);
                if (isOfMethod(op) && nameOfSite(site) == INIT) {
                    return LEFT_INIT;
                }
                if (takenBySite(site) > MAX_TAKEN_BY_SITE) {
                    return LEFT_WIDE;
                }
                if ((op == PUTS || op == PUTF) && isFinal(site)) {
                    return LEFT_FINAL;
                }
            }
            return pool.isFull() ? LEFT_FULL : 0;
        }

        private boolean isFinal(long site) {
            int place = copy.findField(ownerOfSite(site), nameOfSite(site), shapeOfSite(site));
            return place != NONE && (copy.fieldFlagsAt(place) & FINAL_FLAG) != 0;
        }

        private void hide(Pool pool, Method method, int i) {
            int op = method.ops[i];
            int a = method.as[i];
            if (op == PUSH) {
                method.ops[i] = OPEN;
                method.as[i] = pool.addSealed(pool.sort[a] + TO_SEALED, pool.value[a], pool.length[a]);
            } else {
                method.ops[i] = MEET;
                method.as[i] = pool.addSealed(SORT_SITE, pool.siteAt(op, a), 0);
            }
            hiddenCount++;
        }
    }

    /**
     * A row of values. A cleared cell is 0 as a number and null as a reference; which of them it is,
     * the kinds of the code say.
     */
    static final class Cells {
        static final int PLAIN_TAG = 0;
        static final int OBJECT_TAG = 1;
        /** And the string's length on top of it. */
        static final int STRING_TAG = 2;

        final long[] value;
        final int[] tag;

        Cells(int size) {
            value = new long[size];
            tag = new int[size];
        }

        void set(int i, int newTag, long newValue) {
            tag[i] = newTag;
            value[i] = newValue;
        }

        void take(int i, Cells from, int j) {
            tag[i] = from.tag[j];
            value[i] = from.value[j];
        }

        void clear(int from, int to) {
            Arrays.fill(value, from, to, 0L);
            Arrays.fill(tag, from, to, PLAIN_TAG);
        }
    }

    /** Objects and static fields; a field lies at its place, behind those of the earlier objects. */
    static final class Heap {
        final Cells statics = new Cells(ALL_MEMBERS);
        final Cells fields = new Cells(MAX_OBJECTS * ALL_MEMBERS);
        final boolean[] isInitialised = new boolean[MAX_CLASSES];
        final int[] classes = new int[MAX_OBJECTS];
        int objects = 0;

        void reset() {
            objects = 0;
            statics.clear(0, ALL_MEMBERS);
            for (int c = 0; c < MAX_CLASSES; c++) {
                isInitialised[c] = false;
            }
        }

        int make(int type) {
            classes[objects] = type;
            fields.clear(objects * ALL_MEMBERS, (objects + 1) * ALL_MEMBERS);
            objects++;
            return objects - 1;
        }
    }

    /** The methods within each other, each with its locals and its stack. */
    static final class Frames {
        final Cells locals = new Cells(MAX_DEPTH * MAX_LOCALS);
        final Cells stack = new Cells(MAX_DEPTH * MAX_STACK);
        final int[] places = new int[MAX_DEPTH];
        final int[] next = new int[MAX_DEPTH];
        final int[] tops = new int[MAX_DEPTH];
        int depth = 0;

        int current() {
            return depth - 1;
        }

        int runningClass() {
            return places[depth - 1] / MAX_MEMBERS;
        }

        /** The cell that has so many others above it on the stack. */
        int cellUnder(int above) {
            return (depth - 1) * MAX_STACK + tops[depth - 1] - 1 - above;
        }

        /** A method begins within the others, with what it takes from the stack; false if there are too many. */
        boolean enter(int place, int taken) {
            if (depth == MAX_DEPTH) {
                return false;
            }
            int firstLocal = depth * MAX_LOCALS;
            locals.clear(firstLocal, firstLocal + MAX_LOCALS);
            if (taken > 0) {
                for (int i = 0; i < taken; i++) {
                    locals.take(firstLocal + i, stack, cellUnder(taken - 1 - i));
                }
                drop(taken);
            }
            places[depth] = place;
            next[depth] = 0;
            tops[depth] = 0;
            depth++;
            return true;
        }

        void leaveWithResult() {
            int result = cellUnder(0);
            depth--;
            push(stack.tag[result], stack.value[result]);
        }

        void leaveWithout() {
            depth--;
        }

        void push(int tag, long value) {
            stack.set((depth - 1) * MAX_STACK + tops[depth - 1], tag, value);
            tops[depth - 1]++;
        }

        void pushNumber(long value) {
            push(Cells.PLAIN_TAG, value);
        }

        void pushFrom(Cells from, int i) {
            push(from.tag[i], from.value[i]);
        }

        void popInto(Cells to, int i) {
            to.take(i, stack, cellUnder(0));
            drop(1);
        }

        long popNumber() {
            long value = stack.value[cellUnder(0)];
            drop(1);
            return value;
        }

        void drop(int count) {
            tops[depth - 1] -= count;
        }

        int local(int a) {
            return (depth - 1) * MAX_LOCALS + a;
        }
    }

    /** Runs methods whose code is right. */
    static final class Machine {
        private final Frames frames = new Frames();
        private final Heap heap = new Heap();
        private Classes classes;
        private Account account;
        private int steps = 0;

        Machine(Classes first, Account firstAccount) {
            classes = first;
            account = firstAccount;
        }

        void begin(Classes program, int place, int mayDo, Account tells) {
            classes = program;
            account = tells;
            steps = mayDo;
            account.begin();
            heap.reset();
            frames.depth = 0;
            frames.enter(place, 0);
        }

        void takeTurn() {
            if (account.done == steps) {
                account.status = OUT_OF_STEPS;
                return;
            }
            int frame = frames.current();
            int at = frames.next[frame];
            if (frame == 0 && at == 0 && !isReady(frames.runningClass())) {
                return;
            }
            Method method = classes.methodAt(frames.places[frame]);
            int op = method.ops[at];
            int a = method.as[at];
            frames.next[frame] = at + 1;
            if (isOfSite(op) ? meetSite(runningPool().siteAt(op, a)) : perform(op, a)) {
                account.done++;
            } else {
                frames.next[frame] = at;
            }
        }

        private Pool runningPool() {
            return classes.all[frames.runningClass()].pool;
        }

        /** Whether the instruction was done; if not, the run has a status, or it is tried again behind an INIT. */
        private boolean perform(int op, int a) {
            switch (op) {
                case PUSH:
                case OPEN:
                    pushConstant(runningPool(), a);
                    return true;
                case NULL:
                    frames.push(Cells.PLAIN_TAG, 0);
                    return true;
                case LOAD:
                    frames.pushFrom(frames.locals, frames.local(a));
                    return true;
                case STORE:
                    frames.popInto(frames.locals, frames.local(a));
                    return true;
                case SAME:
                    compare();
                    return true;
                case ZERO:
                    if (frames.popNumber() == 0) {
                        frames.next[frames.current()] = a;
                    }
                    return true;
                case GOTO:
                    frames.next[frames.current()] = a;
                    return true;
                case NEW:
                    return makeObject(a);
                case OUT:
                    return log(ROW_NUMBER, frames.popNumber());
                case SAY:
                    return say();
                case RET:
                    leave();
                    return true;
                case POP:
                    frames.drop(1);
                    return true;
                case DUP:
                    frames.pushFrom(frames.stack, frames.cellUnder(0));
                    return true;
                default:
                    calculate(op);
                    return true;
            }
        }

        private void calculate(int op) {
            long second = frames.popNumber();
            long first = frames.popNumber();
            frames.pushNumber(calculated(op, first, second));
        }

        private static long calculated(int op, long first, long second) {
            switch (op) {
                case ADD:
                    return first + second;
                case SUB:
                    return first - second;
                case MUL:
                    return first * second;
                case XOR:
                    return first ^ second;
                default:
                    return first < second ? 1 : 0;
            }
        }

        private void pushConstant(Pool pool, int a) {
            boolean isString = pool.sort[a] == SORT_STRING || pool.sort[a] == SORT_SEALED_STRING;
            int tag = isString ? Cells.STRING_TAG + pool.length[a] : Cells.PLAIN_TAG;
            frames.push(tag, pool.openValue(a));
        }

        private void compare() {
            int second = frames.cellUnder(0);
            int first = frames.cellUnder(1);
            Cells stack = frames.stack;
            boolean same = stack.tag[first] == stack.tag[second] && stack.value[first] == stack.value[second];
            frames.drop(2);
            frames.pushNumber(same ? 1 : 0);
        }

        private boolean makeObject(int type) {
            if (!isReady(type)) {
                return false;
            }
            if (heap.objects == MAX_OBJECTS) {
                return stop(TOO_MANY_OBJECTS);
            }
            frames.push(Cells.OBJECT_TAG, heap.make(type));
            return true;
        }

        private boolean say() {
            int cell = frames.cellUnder(0);
            frames.drop(1);
            return log(rowKindOf(cell), rowValueOf(cell));
        }

        private int rowKindOf(int cell) {
            int tag = frames.stack.tag[cell];
            if (tag == Cells.PLAIN_TAG) {
                return ROW_NULL;
            }
            return tag == Cells.OBJECT_TAG ? ROW_OBJECT : ROW_STRING;
        }

        private long rowValueOf(int cell) {
            if (frames.stack.tag[cell] == Cells.OBJECT_TAG) {
                return classOf(cell);
            }
            return frames.stack.value[cell];
        }

        private int classOf(int cell) {
            return heap.classes[(int) frames.stack.value[cell]];
        }

        private void leave() {
            Method method = classes.methodAt(frames.places[frames.current()]);
            if (method.name == INIT) {
                frames.leaveWithout();
            } else if (frames.depth > 1) {
                frames.leaveWithResult();
            } else {
                end(kindOfResult(method.shape));
            }
        }

        private void end(int kind) {
            int cell = frames.cellUnder(0);
            account.status = ENDED;
            if (kind == NUMBER) {
                account.result = frames.stack.value[cell];
            } else {
                account.result = (long) rowKindOf(cell) << 56 ^ rowValueOf(cell);
            }
        }

        private boolean meetSite(long site) {
            if (site == NONE) {
                return stop(MISSING);
            }
            int op = opOfSite(site);
            int name = nameOfSite(site);
            int shape = shapeOfSite(site);
            int place = isOfMethod(op) ? classes.findMethod(ownerOfSite(site), name, shape)
                    : classes.findField(ownerOfSite(site), name, shape);
            if (place == NONE) {
                return stop(MISSING);
            }
            int flags = isOfMethod(op) ? classes.methodAt(place).flags : classes.fieldFlagsAt(place);
            if (isStatic(flags) != wantsStatic(op)) {
                return stop(UNFIT);
            }
            if (isPrivate(flags) && place / MAX_MEMBERS != frames.runningClass()) {
                return stop(BARRED);
            }
            return wantsStatic(op) ? meetStatic(op, place) : meetOnObject(op, place, takenBySite(site));
        }

        private boolean meetStatic(int op, int place) {
            if (!isReady(place / MAX_MEMBERS)) {
                return false;
            }
            if (op == STATIC) {
                return frames.enter(place, argumentsOf(classes.methodAt(place).shape)) || stop(TOO_DEEP);
            }
            if (op == GETS) {
                frames.pushFrom(heap.statics, place);
            } else {
                frames.popInto(heap.statics, place);
            }
            return true;
        }

        private boolean meetOnObject(int op, int place, int taken) {
            int cell = frames.cellUnder(taken - 1);
            int tag = frames.stack.tag[cell];
            if (tag == Cells.PLAIN_TAG) {
                return stop(NULL_MET);
            }
            if (tag != Cells.OBJECT_TAG || !classes.isInLineOf(place / MAX_MEMBERS, classOf(cell))) {
                return stop(UNFIT);
            }
            if (op == VIRTUAL) {
                return callOn(classOf(cell), place, taken);
            }
            int slot = (int) frames.stack.value[cell] * ALL_MEMBERS + place;
            if (op == GETF) {
                frames.drop(1);
                frames.pushFrom(heap.fields, slot);
            } else {
                frames.popInto(heap.fields, slot);
                frames.drop(1);
            }
            return true;
        }

        private boolean callOn(int type, int found, int taken) {
            Method method = classes.methodAt(found);
            int place = isPrivate(method.flags) ? found : classes.findVirtual(type, method.name, method.shape);
            if (place == NONE) {
                return stop(MISSING);
            }
            return frames.enter(place, taken) || stop(TOO_DEEP);
        }

        /** If a class of the line is still to be initialised, this begins with the topmost one. */
        private boolean isReady(int type) {
            int topmost = classes.topmostOutside(heap.isInitialised, type);
            if (topmost == NONE) {
                return true;
            }
            if (log(ROW_CLASS, topmost)) {
                heap.isInitialised[topmost] = true;
                int init = classes.all[topmost].methodCalled(INIT, 0);
                if (init != NONE && !frames.enter(topmost * MAX_MEMBERS + init, 0)) {
                    stop(TOO_DEEP);
                }
            }
            return false;
        }

        private boolean log(int kind, long value) {
            return account.addRow(kind, value) || stop(TOO_MANY_ROWS);
        }

        /** Answers that the instruction was not done. */
        private boolean stop(int status) {
            account.status = status;
            return false;
        }
    }

    /** What the latest run told. */
    static final class Account {
        boolean isOfRun = false;
        int status = RUNNING;
        int done = 0;
        long result = 0;
        private int rows = 0;
        private final int[] kinds = new int[MAX_ROWS];
        private final long[] values = new long[MAX_ROWS];

        void forget() {
            isOfRun = false;
            rows = 0;
        }

        void begin() {
            isOfRun = true;
            status = RUNNING;
            done = 0;
            result = 0;
            rows = 0;
        }

        boolean addRow(int kind, long value) {
            if (rows == MAX_ROWS) {
                return false;
            }
            kinds[rows] = kind;
            values[rows] = value;
            rows++;
            return true;
        }

        boolean has(int what) {
            return what == -1 || isOfRun && isWithin(what, -4, 2 * rows - 1);
        }

        long answer(int what) {
            switch (what) {
                case -1:
                    return rows;
                case -2:
                    return status;
                case -3:
                    return done;
                case -4:
                    return result;
                default:
                    return what % 2 == 0 ? kinds[what / 2] : values[what / 2];
            }
        }

        boolean tellsSame(Account other) {
            if (rows != other.rows || status != other.status || done != other.done || result != other.result) {
                return false;
            }
            for (int k = 0; k < rows; k++) {
                if (kinds[k] != other.kinds[k] || values[k] != other.values[k]) {
                    return false;
                }
            }
            return true;
        }
    }
}
