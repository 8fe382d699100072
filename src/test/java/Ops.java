/** The document's numbers by name, and short ways to write code. */
final class Ops {
    static final int PUSH = 0, NULL = 1, LOAD = 2, STORE = 3, ADD = 4, SUB = 5, MUL = 6, XOR = 7, LESS = 8, SAME = 9,
            ZERO = 10, GOTO = 11, NEW = 12, STATIC = 13, VIRTUAL = 14, GETS = 15, PUTS = 16, GETF = 17, PUTF = 18,
            OUT = 19, SAY = 20, RET = 21, POP = 22, DUP = 23, OPEN = 24, MEET = 25;
    static final int REF_RESULT = 32;

    private Ops() {
    }

    /** Adds instructions, each given as op and a. */
    static void write(SiteSealer x, int type, int method, int... opsAndAs) {
        for (int i = 0; i < opsAndAs.length; i += 2) {
            x.op(type, method, opsAndAs[i], opsAndAs[i + 1]);
        }
    }

    /** A static method without arguments, and with code. */
    static int main(SiteSealer x, int type, int name, int... opsAndAs) {
        int m = x.method(type, name, 0, 1, 0);
        write(x, type, m, opsAndAs);
        return m;
    }

    /** A row as text: what told says of the latest run. */
    static String rows(SiteSealer x, boolean sealed) {
        StringBuilder text = new StringBuilder();
        for (int k = 0; k < x.told(sealed, -1); k++) {
            text.append(k == 0 ? "" : " ").append(x.told(sealed, 2 * k)).append(':').append(x.told(sealed, 2 * k + 1));
        }
        return text.toString();
    }
}
