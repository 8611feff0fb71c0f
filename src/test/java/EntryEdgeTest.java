import java.util.NoSuchElementException;

/** Boundary cases of promises 4, 5 and 6: set, value and size. */
final class EntryEdgeTest {
    private static final int[] INDEX = {0x1000, 0x1001, 0x1017, 0x1600, 0x1600, 0x1600, 0x1600, 0x1600, 0x1800, 0x1A00,
        0x1A00, 0x1A00, 0x1A00, 0x1A00, 0x2000, 0x2001, 0x2002, 0x2003, 0x2004, 0x2005, 0x2006, 0x2007};
    private static final int[] SUB = {0, 0, 0, 0, 1, 2, 3, 4, 2, 0, 1, 2, 3, 4, 0, 0, 0, 0, 0, 0, 0, 0};
    private static final int[] SIZE = {4, 1, 2, 1, 4, 4, 4, 4, 1, 1, 4, 4, 4, 4, 1, 2, 4, 4, 12, 8, 2, 20};
    private static final int[][] NONE = {{0x0FFF, 0}, {0x1002, 0}, {0x1000, 1}, {0x1017, -1}, {0x1600, 5}, {0x1600, -1},
        {0x1601, 0}, {0x1800, 0}, {0x1800, 1}, {0x1800, 3}, {0x1A00, 5}, {0x1FFF, 0}, {0x2000, 1}, {0x2000, 256},
        {0x2000, -256}, {0x2006, 1}, {0x2008, 0}, {0, 0}, {-1, 0}, {0x12000, 0}, {0x2000 - 0x10000, 0}, {0x200000, 0},
        {0x2000, Integer.MIN_VALUE}, {Integer.MIN_VALUE, 0}, {Integer.MAX_VALUE, Integer.MAX_VALUE}};

    public static void main(String[] args) {
        Bench.edge("4", "Sets an entry with an index from 0x2000 on", EntryEdgeTest::setBelow);
        Bench.edge("4", "and a size of at most 8", EntryEdgeTest::setTooLong);
        Bench.edge("4", "(writable or not, in any state)", EntryEdgeTest::setInAnyState);
        Bench.edge("4", "its bytes become those of low and high, as many as it has", EntryEdgeTest::asManyAsItHas);
        Bench.edge("4", "Answers how many frames were sent", EntryEdgeTest::howMany);
        Bench.edge("4", "NoSuchElementException when there is none such", EntryEdgeTest::setNone);
        Bench.edge("5", "NoSuchElementException when there is no such entry", EntryEdgeTest::valueOfNone);
        Bench.edge("5", "or byte", EntryEdgeTest::valueOfNoByte);
        Bench.edge("5", "byte i is 65 + i", EntryEdgeTest::firstAndLastByte);
        Bench.edge("2", "each with a SIZE in bytes, and READABLE (r), WRITABLE (w), MAPPABLE (m)",
                EntryEdgeTest::rights);
        Bench.edge("5", "Byte i of an entry", EntryEdgeTest::entriesAreApart);
        Bench.edge("6", "How many bytes an entry has", EntryEdgeTest::sizes);
        Bench.edge("5 and 6", "(readable or not, so with value())", EntryEdgeTest::notReadable);
        Bench.edge("6", "0 when there is none", EntryEdgeTest::sizeOfNone);
        Bench.done();
    }

    private static void dueNoSet(Bench b, int index, int sub) {
        Bench.dueThrow("set(" + index + ", " + sub + ")", NoSuchElementException.class,
                () -> b.node.set(index, sub, -1, -1));
    }

    private static void setBelow() {
        Bench b = new Bench(5);
        for (int k = 0; k < 14; k++) {
            dueNoSet(b, INDEX[k], SUB[k]);
        }
        NewObjectTest.entriesAreAsAtFirst(b.node);
        Bench.due("set(0x2000)", b.node.set(0x2000, 0, 1, 0), 0);
        b.dueBytes(0x2000, 0, 1);
    }

    private static void setTooLong() {
        Bench b = new Bench(5);
        dueNoSet(b, 0x2004, 0);
        dueNoSet(b, 0x2007, 0);
        NewObjectTest.entriesAreAsAtFirst(b.node);
        Bench.due("set(0x2005), a size of 8", b.node.set(0x2005, 0, 0x04030201, 0x08070605), 0);
        b.dueBytes(0x2005, 0, 1, 2, 3, 4, 5, 6, 7, 8);
    }

    private static void setInAnyState() {
        for (int command : new int[] {128, 1, 2}) {
            Bench b = new Bench(5);
            b.command(command);
            for (int index : new int[] {0x2000, 0x2001, 0x2002, 0x2003, 0x2005, 0x2006}) {
                Bench.due("set(" + index + ")", b.node.set(index, 0, -1, -1), 0);
                int last = b.node.size(index, 0) - 1;
                Bench.due("first byte of " + index, b.node.value(index, 0, 0), 255);
                Bench.due("last byte of " + index, b.node.value(index, 0, last), 255);
            }
            dueNoSet(b, 0x2004, 0);
            dueNoSet(b, 0x1001, 0);
        }
    }

    private static void asManyAsItHas() {
        int[] index = {0x2000, 0x2001, 0x2002, 0x2003, 0x2005, 0x2006};
        int[] all = {0xF1, 0xF2, 0xF3, 0xF4, 0xF5, 0xF6, 0xF7, 0xF8};
        for (int i : index) {
            Bench b = new Bench(5);
            b.node.set(i, 0, 0xF4F3F2F1, 0xF8F7F6F5);
            b.dueBytes(i, 0, java.util.Arrays.copyOf(all, b.node.size(i, 0)));
            for (int other = 0; other < INDEX.length; other++) {
                if (INDEX[other] > 0x1FFF && INDEX[other] != i && INDEX[other] != 0x2007) {
                    b.dueBytes(INDEX[other], 0, new int[SIZE[other]]);
                }
            }
            b.node.set(i, 0, 0, 0);
            b.dueBytes(i, 0, new int[b.node.size(i, 0)]);
            b.node.set(i, 0, Integer.MIN_VALUE, Integer.MAX_VALUE);
            b.dueBytes(i, 0, java.util.Arrays.copyOf(new int[] {0, 0, 0, 128, 255, 255, 255, 127}, b.node.size(i, 0)));
        }
    }

    private static void howMany() {
        Bench b = Bench.giving(5, 255, Bench.name(0x2003, 4));
        Bench.due("a mapped one", b.node.set(0x2003, 0, 1, 0), 1);
        b.dueFrame("a mapped one", 0x185, 1, 0, 0, 0);
        Bench.due("bytes it has not", b.node.set(0x2003, 0, 1, -1), 0);
        Bench.due("one that is not mapped", b.node.set(0x2002, 0, 1, 0), 0);
        for (int k = 0; k < 33; k++) {
            b.ask(0x40, 0x1000, 0, 0);
        }
        Bench.due("a frame that finds no room", b.node.set(0x2003, 0, 2, 0), 1);
    }

    private static void setNone() {
        Bench b = Bench.giving(5, 255, Bench.name(0x2000, 1));
        for (int[] none : NONE) {
            dueNoSet(b, none[0], none[1]);
        }
        b.dueSilence("sets that were refused");
        b.dueBytes(0x2000, 0, 0);
    }

    private static void dueNoValue(Bench b, int index, int sub, int i) {
        Bench.dueThrow("value(" + index + ", " + sub + ", " + i + ")", NoSuchElementException.class,
                () -> b.node.value(index, sub, i));
    }

    private static void valueOfNone() {
        Bench b = new Bench(5);
        for (int[] none : NONE) {
            dueNoValue(b, none[0], none[1], 0);
            dueNoValue(b, none[0], none[1], -1);
            dueNoValue(b, none[0], none[1], 1);
        }
    }

    private static void valueOfNoByte() {
        for (int k = 0; k < INDEX.length; k++) {
            Bench b = new Bench(5);
            for (int i : new int[] {-1, SIZE[k], SIZE[k] + 1, 256, -256, Integer.MIN_VALUE, Integer.MAX_VALUE}) {
                dueNoValue(b, INDEX[k], SUB[k], i);
            }
            Bench.due("first byte", b.node.value(INDEX[k], SUB[k], 0) >= 0, true);
            Bench.due("last byte", b.node.value(INDEX[k], SUB[k], SIZE[k] - 1) >= 0, true);
        }
    }

    private static void firstAndLastByte() {
        MappedBusNode node = new MappedBusNode(5);
        for (int i = 0; i < 20; i++) {
            Bench.due("byte " + i, node.value(0x2007, 0, i), 65 + i);
        }
        node.set(0x2000, 0, 255, 0);
        Bench.due("a byte is not negative", node.value(0x2000, 0, 0), 255);
        node.set(0x2000, 0, 128, 0);
        Bench.due("a byte is not negative", node.value(0x2000, 0, 0), 128);
    }

    private static void rights() {
        for (int k = 0; k < INDEX.length; k++) {
            Bench b = new Bench(5);
            boolean readable = INDEX[k] != 0x2006;
            boolean writable = INDEX[k] != 0x1000 && INDEX[k] != 0x1001 && INDEX[k] != 0x2003 && INDEX[k] != 0x2007;
            b.ask(0x40, INDEX[k], SUB[k], 0);
            Bench.due("READ " + INDEX[k] + " is aborted", (b.node.out(0, 2) & 255) == 128, !readable);
            b.node.flush();
            b.ask(0x20, INDEX[k], SUB[k], 0);
            Bench.due("WRITE " + INDEX[k] + " is aborted", (b.node.out(0, 2) & 255) == 128, !writable);
            Bench.due("busy()", b.node.busy(), writable);
        }
    }

    private static void entriesAreApart() {
        Bench b = new Bench(5);
        b.map(0x1600, Bench.name(0x2000, 1), Bench.name(0x2001, 2), Bench.name(0x2006, 2));
        b.map(0x1A00, Bench.name(0x2003, 4), Bench.name(0x1001, 1), Bench.name(0x2000, 1), Bench.name(0x2001, 2));
        b.write(0x1017, 0, 2, 0xFEFD);
        b.write(0x1800, 2, 1, 9);
        b.begin(0x20, 0x2004);
        b.segment(0x00, 201, 202, 203, 204, 205, 206, 207);
        b.segment(0x15, 208, 209, 210, 211, 212);
        b.node.set(0x2000, 0, 101, 0);
        b.node.set(0x2001, 0, 0x6766, 0);
        b.node.set(0x2002, 0, 0x71707F7E, 0);
        b.node.set(0x2003, 0, 0x81807F7E, 0);
        b.node.set(0x2005, 0, 0x94939291, 0x98979695);
        b.node.set(0x2006, 0, 0xA2A1, 0);
        b.command(1);
        b.take();
        b.dueBytes(0x1000, 0, 0x91, 1, 2, 0);
        b.dueBytes(0x1001, 0, 16);
        b.dueBytes(0x1017, 0, 0xFD, 0xFE);
        b.dueBytes(0x1600, 0, 3);
        b.dueBytes(0x1600, 1, 8, 0, 0, 0x20);
        b.dueBytes(0x1600, 2, 16, 0, 1, 0x20);
        b.dueBytes(0x1600, 3, 16, 0, 6, 0x20);
        b.dueBytes(0x1600, 4, 0, 0, 0, 0);
        b.dueBytes(0x1800, 2, 9);
        b.dueBytes(0x1A00, 0, 4);
        b.dueBytes(0x1A00, 1, 32, 0, 3, 0x20);
        b.dueBytes(0x1A00, 2, 8, 0, 1, 0x10);
        b.dueBytes(0x1A00, 3, 8, 0, 0, 0x20);
        b.dueBytes(0x1A00, 4, 16, 0, 1, 0x20);
        b.dueBytes(0x2000, 0, 101);
        b.dueBytes(0x2001, 0, 0x66, 0x67);
        b.dueBytes(0x2002, 0, 0x7E, 0x7F, 0x70, 0x71);
        b.dueBytes(0x2003, 0, 0x7E, 0x7F, 0x80, 0x81);
        b.dueBytes(0x2004, 0, 201, 202, 203, 204, 205, 206, 207, 208, 209, 210, 211, 212);
        b.dueBytes(0x2005, 0, 0x91, 0x92, 0x93, 0x94, 0x95, 0x96, 0x97, 0x98);
        b.dueBytes(0x2006, 0, 0xA1, 0xA2);
        Bench.due("first byte of 2007", b.node.value(0x2007, 0, 0), 65);
    }

    private static void sizes() {
        MappedBusNode node = new MappedBusNode(5);
        for (int k = 0; k < INDEX.length; k++) {
            Bench.due("size(" + INDEX[k] + ", " + SUB[k] + ")", node.size(INDEX[k], SUB[k]), SIZE[k]);
        }
    }

    private static void notReadable() {
        Bench b = new Bench(5);
        b.ask(0x40, 0x2006, 0, 0);
        b.dueAbort("READ 2006", 0x2006, 0, 0x06010001);
        Bench.due("size(0x2006)", b.node.size(0x2006, 0), 2);
        b.node.set(0x2006, 0, 0xFFFE, 0);
        b.dueBytes(0x2006, 0, 254, 255);
    }

    private static void sizeOfNone() {
        MappedBusNode node = new MappedBusNode(5);
        for (int[] none : NONE) {
            Bench.due("size(" + none[0] + ", " + none[1] + ")", node.size(none[0], none[1]), 0);
        }
        Bench.due("it stays so", node.size(0x2008, 0), 0);
    }
}
