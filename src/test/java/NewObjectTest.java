/** Promise 1: a new object. */
final class NewObjectTest {
    public static void main(String[] args) {
        number(3, 3);
        number(1, 1);
        number(15, 15);
        number(0, 1);
        number(-7, 1);
        number(Integer.MIN_VALUE, 1);
        number(16, 15);
        number(Integer.MAX_VALUE, 15);
        entriesAreAsAtFirst(new MappedBusNode(4));
        Bench.done();
    }

    private static void number(int given, int n) {
        MappedBusNode node = new MappedBusNode(given);
        String what = "new(" + given + ")";
        Bench.due(what + ": outs()", node.outs(), 1);
        Bench.due(what + ": ID", node.out(0, 0), 0x700 + n);
        Bench.due(what + ": length", node.out(0, 1), 1);
        Bench.due(what + ": low", node.out(0, 2), 0);
        Bench.due(what + ": high", node.out(0, 3), 0);
        Bench.due(what + ": state()", node.state(), 127);
        Bench.due(what + ": busy()", node.busy(), false);
        Bench.due(what + ": tick()", node.tick(), 0);
        Bench.due(what + ": its request", node.frame(0x600 + n, 8, 0x00100040, 0), 1);
        Bench.due(what + ": its answer", node.out(1, 0), 0x580 + n);
    }

    static void entriesAreAsAtFirst(MappedBusNode node) {
        entry(node, 0x1000, 0, 4, 0x91, 0x01, 0x02);
        entry(node, 0x1001, 0, 1);
        entry(node, 0x1017, 0, 2);
        entry(node, 0x1600, 0, 1);
        entry(node, 0x1800, 2, 1, 255);
        entry(node, 0x1A00, 0, 1);
        for (int sub = 1; sub <= 4; sub++) {
            entry(node, 0x1600, sub, 4);
            entry(node, 0x1A00, sub, 4);
        }
        entry(node, 0x2000, 0, 1);
        entry(node, 0x2001, 0, 2);
        entry(node, 0x2002, 0, 4);
        entry(node, 0x2003, 0, 4);
        entry(node, 0x2004, 0, 12);
        entry(node, 0x2005, 0, 8);
        entry(node, 0x2006, 0, 2);
        entry(node, 0x2007, 0, 20, 65, 66, 67, 68, 69, 70, 71, 72, 73, 74,
                75, 76, 77, 78, 79, 80, 81, 82, 83, 84);
    }

    private static void entry(MappedBusNode node, int index, int sub, int size, int... bytes) {
        String where = Integer.toHexString(index) + "," + sub;
        Bench.due("size of " + where, node.size(index, sub), size);
        for (int i = 0; i < size; i++) {
            Bench.due("byte " + i + " of " + where, node.value(index, sub, i),
                    i < bytes.length ? bytes[i] : 0);
        }
    }
}
