/** A node under test, with short words for what a client does to it and for the answers that are due. */
final class Bench {
    private static int wrong = 0;
    private static int looked = 0;
    /** The promise and the sentence that is looked at, said before each wrong answer. */
    private static String sentence = "";

    final MappedBusNode node;
    final int n;

    Bench(int n) {
        this.n = n;
        node = new MappedBusNode(n);
        node.flush();
    }

    interface Call {
        int go();
    }

    /** One boundary case: the promise's number, the document's words, and the calls that they bind. */
    static void edge(String promise, String words, Runnable calls) {
        sentence = "promise " + promise + ", \"" + words + "\": ";
        int before = looked;
        try {
            calls.run();
        } catch (RuntimeException e) {
            tell("threw " + e);
        }
        if (looked == before) {
            tell("nothing was looked at");
        }
        sentence = "";
    }

    private static void tell(String what) {
        wrong++;
        System.out.println(sentence + what);
    }

    static void due(String what, long got, long want) {
        looked++;
        if (got != want) {
            tell(what + " answered " + got + ", due is " + want);
        }
    }

    static void due(String what, boolean got, boolean want) {
        due(what, got ? 1 : 0, want ? 1 : 0);
    }

    static void dueThrow(String what, Class<?> kind, Call call) {
        looked++;
        String got;
        try {
            got = "answered " + call.go();
        } catch (RuntimeException e) {
            if (e.getClass() == kind) {
                return;
            }
            got = "threw " + e;
        }
        tell(what + " " + got + ", due is " + kind);
    }

    static void done() {
        if (wrong != 0) {
            System.out.println(wrong + " answers are not as due");
            System.exit(1);
        }
    }

    static int word(int from, int... bytes) {
        int all = 0;
        for (int i = 0; i < 4 && from + i < bytes.length; i++) {
            all |= bytes[from + i] << 8 * i;
        }
        return all;
    }

    int come(int id, int... bytes) {
        return node.frame(id, bytes.length, word(0, bytes), word(4, bytes));
    }

    /** A command for all nodes. */
    int command(int what) {
        return come(0, what, 0);
    }

    int sync() {
        return come(0x80);
    }

    int take(int... bytes) {
        return come(0x200 + n, bytes);
    }

    /** A request with byte 0, an index, a sub and bytes 4 .. 7 as a number. */
    int ask(int first, int index, int sub, int high) {
        return node.frame(0x600 + n, 8, first | index << 8 | sub << 24, high);
    }

    /** A request about a segment: byte 0 and the bytes behind it. */
    int segment(int first, int... bytes) {
        int[] all = new int[8];
        all[0] = first;
        System.arraycopy(bytes, 0, all, 1, bytes.length);
        return come(0x600 + n, all);
    }

    /** Writes at once, with the number of bytes told. */
    void write(int index, int sub, int size, int value) {
        ask(0x23 + 4 * (4 - size), index, sub, value);
        dueAnswer("write " + Integer.toHexString(index) + "," + sub, 0x60, index, sub, 0);
    }

    void writeFails(int index, int sub, int size, int value, int code) {
        ask(0x23 + 4 * (4 - size), index, sub, value);
        dueAbort("write " + Integer.toHexString(index) + "," + sub + " = " + value, index, sub, code);
    }

    static int name(int index, int size) {
        return index * 65536 + 8 * size;
    }

    /** Sets up a map in PRE: its names and then their number. */
    void map(int index, int... names) {
        write(index, 0, 1, 0);
        for (int k = 0; k < names.length; k++) {
            write(index, k + 1, 4, names[k]);
        }
        write(index, 0, 1, names.length);
    }

    /** A node that runs and gives these entries with this TYPE. */
    static Bench giving(int n, int type, int... names) {
        Bench b = new Bench(n);
        b.map(0x1A00, names);
        b.write(0x1800, 2, 1, type);
        b.command(1);
        return b;
    }

    /** A node that runs and takes these entries. */
    static Bench taking(int n, int... names) {
        Bench b = new Bench(n);
        b.map(0x1600, names);
        b.command(1);
        return b;
    }

    /** A transfer begins, and its answer is not looked at. */
    void begin(int first, int index) {
        ask(first, index, 0, 0);
        node.flush();
    }

    /** What the outbox has is this one frame; it is emptied. */
    void dueFrame(String what, int id, int... bytes) {
        due(what + ": outs()", node.outs(), 1);
        dueNext(what, 0, id, bytes);
        node.flush();
    }

    void dueNext(String what, int k, int id, int... bytes) {
        if (k >= node.outs()) {
            due(what + ": outs()", node.outs(), k + 1);
            return;
        }
        due(what + ": ID", node.out(k, 0), id);
        due(what + ": length", node.out(k, 1), bytes.length);
        due(what + ": low", node.out(k, 2), word(0, bytes));
        due(what + ": high", node.out(k, 3), word(4, bytes));
    }

    void dueAnswer(String what, int first, int index, int sub, int high) {
        dueFrame(what, 0x580 + n, first, index & 255, index >> 8, sub,
                high & 255, high >> 8 & 255, high >> 16 & 255, high >>> 24);
    }

    void dueAbort(String what, int index, int sub, int code) {
        dueAnswer(what, 128, index, sub, code);
        due(what + ": busy()", node.busy(), false);
    }

    void dueSilence(String what) {
        due(what + ": outs()", node.outs(), 0);
    }

    void dueBytes(int index, int sub, int... bytes) {
        due("size(" + Integer.toHexString(index) + ")", node.size(index, sub), bytes.length);
        for (int i = 0; i < bytes.length; i++) {
            due("value(" + Integer.toHexString(index) + ", " + sub + ", " + i + ")",
                    node.value(index, sub, i), bytes[i]);
        }
    }
}
