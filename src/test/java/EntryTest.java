import java.util.NoSuchElementException;

/** Promises 4, 5 and 6: set, value and size. */
final class EntryTest {
    public static void main(String[] args) {
        set();
        wrongSets();
        wrongValues();
        sizes();
        Bench.done();
    }

    private static void set() {
        Bench b = new Bench(5);
        for (int state : new int[] {128, 1, 2}) {
            b.command(state);
            b.node.set(0x2005, 0, 0, 0);
            int[] index = {0x2000, 0x2001, 0x2002, 0x2003, 0x2006};
            int[] size = {1, 2, 4, 4, 2};
            for (int k = 0; k < index.length; k++) {
                b.node.set(index[k], 0, 0, 0);
                Bench.due("set answers", b.node.set(index[k], 0, 0x84838280 + state % 8, -1), 0);
                for (int i = 0; i < size[k]; i++) {
                    int want = i == 0 ? 0x80 + state % 8 : 0x81 + i;
                    Bench.due("byte " + i, b.node.value(index[k], 0, i), want);
                }
            }
            b.dueBytes(0x2005, 0, 0, 0, 0, 0, 0, 0, 0, 0);
            Bench.due("set answers", b.node.set(0x2005, 0, 0x04030201, 0xF8070605), 0);
            b.dueBytes(0x2005, 0, 1, 2, 3, 4, 5, 6, 7, 0xF8);
            b.dueBytes(0x2007, 0, 65, 66, 67, 68, 69, 70, 71, 72, 73, 74,
                    75, 76, 77, 78, 79, 80, 81, 82, 83, 84);
            b.dueBytes(0x2004, 0, 0, 0, 0, 0, 0, 0, 0, 0, 0, 0, 0, 0);
        }
        b.dueSilence("set without a map");
    }

    private static void wrongSets() {
        Bench b = new Bench(5);
        int[][] wrong = {{0x2004, 0}, {0x2007, 0}, {0x2008, 0}, {0x1FFF, 0}, {0x1000, 0}, {0x1001, 0},
            {0x1017, 0}, {0x1600, 0}, {0x1600, 1}, {0x1800, 2}, {0x1A00, 0}, {0x1A00, 4}, {0x2000, 1},
            {0x2000, -1}, {0x2000, 256}, {0x12000, 0}, {-1, 0}, {0, 0},
            {Integer.MIN_VALUE, Integer.MIN_VALUE}, {Integer.MAX_VALUE, Integer.MAX_VALUE}};
        for (int[] w : wrong) {
            Bench.dueThrow("set(" + w[0] + ", " + w[1] + ")", NoSuchElementException.class,
                    () -> b.node.set(w[0], w[1], 1, 1));
        }
        NewObjectTest.entriesAreAsAtFirst(b.node);
        b.dueSilence("after wrong sets");
    }

    private static void wrongValues() {
        Bench b = new Bench(5);
        int[][] wrong = {{0x1000, 0, 4}, {0x1000, 0, -1}, {0x1000, 1, 0}, {0x1001, 0, 1}, {0x1600, 5, 0},
            {0x1600, -1, 0}, {0x1800, 0, 0}, {0x1800, 2, 1}, {0x2004, 0, 12}, {0x2007, 0, 20},
            {0x2007, 0, Integer.MAX_VALUE}, {0x2007, 0, Integer.MIN_VALUE}, {0x2008, 0, 0}, {-1, 0, 0},
            {Integer.MAX_VALUE, Integer.MAX_VALUE, Integer.MAX_VALUE}};
        for (int[] w : wrong) {
            Bench.dueThrow("value(" + w[0] + ", " + w[1] + ", " + w[2] + ")",
                    NoSuchElementException.class, () -> b.node.value(w[0], w[1], w[2]));
        }
    }

    private static void sizes() {
        int entries = 0;
        int bytes = 0;
        for (int index = -2; index < 0x10100; index++) {
            MappedBusNode node = new MappedBusNode(5);
            for (int sub = -1; sub < 6; sub++) {
                int size = node.size(index, sub);
                entries += size > 0 ? 1 : 0;
                bytes += size;
            }
        }
        Bench.due("how many entries", entries, 22);
        Bench.due("how many bytes", bytes, 95);
        MappedBusNode node = new MappedBusNode(5);
        NewObjectTest.entriesAreAsAtFirst(node);
        Bench.due("size(MIN, MIN)", node.size(Integer.MIN_VALUE, Integer.MIN_VALUE), 0);
        Bench.due("size(MAX, MAX)", node.size(Integer.MAX_VALUE, Integer.MAX_VALUE), 0);
        Bench.due("size(0x2000, 256)", node.size(0x2000, 256), 0);
        Bench.due("size(0x1800, 258)", node.size(0x1800, 258), 0);
    }
}
