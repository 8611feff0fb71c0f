/** Boundary cases of promise 2: the taking map. */
final class TakeEdgeTest {
    private static final int ONE = Bench.name(0x2000, 1);
    private static final int TWO = Bench.name(0x2001, 2);
    private static final int FOUR = Bench.name(0x2002, 4);
    private static final int EIGHT = Bench.name(0x2005, 8);

    public static void main(String[] args) {
        Bench.edge("2", "ID 0x200 + N, RUNNING", TakeEdgeTest::onlyWhenRunning);
        Bench.edge("2", "ID 0x200 + N", TakeEdgeTest::onlyItsId);
        Bench.edge("2", "when n of the taking map is not 0", TakeEdgeTest::emptyMap);
        Bench.edge("2", "when the frame has at least as many bytes as the map's content", TakeEdgeTest::eachLength);
        Bench.edge("2", "its (first) bytes become those of the entries", TakeEdgeTest::firstBytes);
        Bench.edge("2", "the entries that its subs 1 .. n name", TakeEdgeTest::onlyFirstSubs);
        Bench.edge("2", "otherwise bit 4 of the ERROR entry becomes 1", TakeEdgeTest::tooShort);
        Bench.edge("2", "at most 8 in all", TakeEdgeTest::fullContent);
        Bench.done();
    }

    private static void onlyWhenRunning() {
        for (int by : new int[] {128, 2}) {
            Bench b = Bench.taking(3, ONE);
            b.command(by);
            Bench.due("take after command " + by, b.take(7), 0);
            Bench.due("empty one after command " + by, b.take(), 0);
            b.dueBytes(0x2000, 0, 0);
            b.dueBytes(0x1001, 0, 0);
            b.command(1);
            b.take(7);
            b.dueBytes(0x2000, 0, 7);
        }
    }

    private static void onlyItsId() {
        Bench b = Bench.taking(3, ONE);
        for (int id : new int[] {0x200, 0x202, 0x204, 0x213, 0x103, 0x303, 0x183}) {
            b.come(id, 7);
            b.come(id);
        }
        b.dueBytes(0x2000, 0, 0);
        b.dueBytes(0x1001, 0, 0);
    }

    private static void emptyMap() {
        Bench b = new Bench(3);
        b.map(0x1600, ONE);
        b.write(0x1600, 0, 1, 0);
        b.command(1);
        Bench.due("take, n is 0", b.take(7), 0);
        Bench.due("empty one, n is 0", b.take(), 0);
        b.dueBytes(0x2000, 0, 0);
        b.dueBytes(0x1001, 0, 0);
    }

    private static void eachLength() {
        int[][] names = {{ONE}, {TWO}, {ONE, TWO}, {FOUR}, {ONE, FOUR}, {FOUR, TWO}, {FOUR, TWO, ONE}, {FOUR, FOUR}};
        for (int content = 1; content <= 8; content++) {
            for (int length = 0; length <= 8; length++) {
                Bench b = Bench.taking(3, names[content - 1]);
                b.node.frame(0x203, length, 0x01010101, 0x01010101);
                int taken = b.node.value(0x2000, 0, 0) + b.node.value(0x2001, 0, 1) + b.node.value(0x2002, 0, 3);
                Bench.due(length + " bytes for " + content, taken > 0, length >= content);
                Bench.due("ERROR, " + length + " bytes for " + content, b.node.value(0x1001, 0, 0),
                        length >= content ? 0 : 16);
            }
        }
    }

    private static void firstBytes() {
        Bench b = Bench.taking(3, TWO, ONE);
        b.take(1, 2, 3, 99, 98, 97, 96, 95);
        b.dueBytes(0x2001, 0, 1, 2);
        b.dueBytes(0x2000, 0, 3);
        b.dueBytes(0x2002, 0, 0, 0, 0, 0);
        b.dueBytes(0x2005, 0, 0, 0, 0, 0, 0, 0, 0, 0);
        b.dueBytes(0x2006, 0, 0, 0);
        b = Bench.taking(3, Bench.name(0x2006, 2));
        b.take(254, 255);
        b.dueBytes(0x2006, 0, 254, 255);
    }

    private static void onlyFirstSubs() {
        for (int n = 1; n <= 4; n++) {
            Bench b = new Bench(3);
            b.map(0x1600, ONE, TWO, FOUR, ONE);
            b.write(0x1600, 0, 1, n);
            b.command(1);
            b.take(1, 2, 3, 4, 5, 6, 7, 8);
            b.dueBytes(0x2000, 0, n < 4 ? 1 : 8);
            Bench.due("2001 with n = " + n, b.node.value(0x2001, 0, 1), n < 2 ? 0 : 3);
            Bench.due("2002 with n = " + n, b.node.value(0x2002, 0, 3), n < 3 ? 0 : 7);
        }
    }

    private static void tooShort() {
        Bench b = Bench.taking(3, TWO, ONE);
        Bench.due("answer", b.take(7, 7), 0);
        b.dueBytes(0x1001, 0, 16);
        b.dueBytes(0x2001, 0, 0, 0);
        b.dueBytes(0x2000, 0, 0);
        b.take();
        b.dueBytes(0x1001, 0, 16);
        b.take(1, 2, 3);
        b.dueBytes(0x1001, 0, 16);
        b.command(128);
        b.command(1);
        b.dueBytes(0x1001, 0, 16);
        b.command(130);
        b.dueBytes(0x1001, 0, 0);
    }

    private static void fullContent() {
        Bench b = Bench.taking(3, EIGHT);
        b.take(1, 2, 3, 4, 5, 6, 7);
        b.dueBytes(0x2005, 0, 0, 0, 0, 0, 0, 0, 0, 0);
        b.dueBytes(0x1001, 0, 16);
        b.take(248, 249, 250, 251, 252, 253, 254, 255);
        b.dueBytes(0x2005, 0, 248, 249, 250, 251, 252, 253, 254, 255);
    }
}
