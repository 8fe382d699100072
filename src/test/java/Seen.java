/** What calls show of an object, as one text; each of both ways takes some 400 calls at most of small objects. */
final class Seen {
    private final StringBuilder text = new StringBuilder();

    private Seen() {
    }

    /** All that can be seen without changing anything. */
    static String now(SiteSealer x) {
        Seen seen = new Seen();
        seen.add(x::left);
        seen.add(() -> x.alike() ? 1 : 0);
        for (int k = 0; k < x.left(); k++) {
            for (int what = 0; what < 4; what++) {
                int k0 = k;
                int what0 = what;
                seen.add(() -> x.leftAt(k0, what0));
            }
        }
        seen.addAll(x, false);
        seen.addAll(x, true);
        return seen.text.toString();
    }

    /** What runs, and what is added behind, answer then: this shows what no call tells by itself. */
    static String later(SiteSealer x) {
        Seen seen = new Seen();
        seen.addRuns(x);
        seen.add(() -> x.seal(77));
        seen.addRuns(x);
        for (int c = 0; c < 8; c++) {
            seen.addMembers(x, c);
        }
        for (int i = 0; i < 9; i++) {
            int parent = i % 2 - 1;
            seen.add(() -> x.type(parent));
        }
        seen.add(() -> x.seal(78));
        seen.addRuns(x);
        return seen.text.toString();
    }

    private void add(Due.Call call) {
        text.append(' ');
        try {
            text.append(call.answer());
        } catch (RuntimeException e) {
            text.append(e.getClass().getSimpleName());
        }
    }

    private void addAll(SiteSealer x, boolean sealed) {
        text.append(sealed ? "\ncopy" : "\nclasses");
        for (int what = -4; what < 2 * x.told(sealed, -1); what++) {
            int what0 = what;
            add(() -> x.told(sealed, what0));
        }
        for (int c = 0; c < 8; c++) {
            int size = sizeOfPool(x, sealed, c);
            text.append("\npool ").append(size);
            for (int j = 0; j < size; j++) {
                text.append(' ').append(x.entry(sealed, c, j, 0)).append(':').append(x.entry(sealed, c, j, 1));
            }
            for (int m = 0; size >= 0 && m < 6; m++) {
                addMethod(x, sealed, c, m);
            }
        }
    }

    private static int sizeOfPool(SiteSealer x, boolean sealed, int c) {
        try {
            return x.pool(sealed, c);
        } catch (RuntimeException e) {
            return -1;
        }
    }

    private void addMethod(SiteSealer x, boolean sealed, int c, int m) {
        try {
            text.append("\nmethod ").append(x.wrong(sealed, c, m));
            for (int i = 0; i < 41; i++) {
                text.append(' ').append(x.code(sealed, c, m, i, 0)).append(':').append(x.code(sealed, c, m, i, 1));
            }
        } catch (RuntimeException e) {
            text.append(e.getClass().getSimpleName());
        }
    }

    private void addRuns(SiteSealer x) {
        for (int s = 0; s < 2; s++) {
            boolean sealed = s == 1;
            for (int name = 1; name < 4; name++) {
                int name0 = name;
                add(() -> x.run(sealed, 0, name0, 0, 500));
                text.append(Ops.rows(x, sealed));
            }
        }
    }

    private void addMembers(SiteSealer x, int c) {
        add(() -> x.field(c, 29, 0, 0));
        add(() -> x.field(c, 29, 1, 0));
        add(() -> x.number(c, 1, false));
        add(() -> x.string(c, 1, 1));
        add(() -> x.op(c, 0, Ops.GOTO, 0));
        add(() -> x.method(c, 29, 0, 1, 0));
    }
}
