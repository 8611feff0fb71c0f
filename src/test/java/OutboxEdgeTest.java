/** Boundary cases of promises 8 to 11: busy, outs, out and flush. */
final class OutboxEdgeTest {
    public static void main(String[] args) {
        Bench.edge("8", "Whether a transfer goes on", OutboxEdgeTest::busy);
        Bench.edge("9", "How many frames are in the outbox", OutboxEdgeTest::eachNumber);
        Bench.edge("9", "only the first 32 frames are kept until it is emptied", OutboxEdgeTest::full);
        Bench.edge("9", "(later ones are sent, and counted, all the same)", OutboxEdgeTest::laterOnes);
        Bench.edge("9", "only the first 32 frames are kept", OutboxEdgeTest::roomForOneOfTwo);
        Bench.edge("10", "for what = 0 the ID, 1 how many bytes, 2 low, 3 high", OutboxEdgeTest::eachWhat);
        Bench.edge("10", "(those it does not have are 0)", OutboxEdgeTest::bytesItHasNot);
        Bench.edge("10", "IndexOutOfBoundsException when there is no such frame", OutboxEdgeTest::noSuchFrame);
        Bench.edge("10", "or what", OutboxEdgeTest::noSuchWhat);
        Bench.edge("11", "Empties the outbox: how many frames there were in it", OutboxEdgeTest::flush);
        Bench.edge("11", "(32 at most)", OutboxEdgeTest::flushFull);
        Bench.edge("11", "Empties the outbox", OutboxEdgeTest::nothingElse);
        Bench.done();
    }

    private static void dueNone(MappedBusNode node, int k, int what) {
        Bench.dueThrow("out(" + k + ", " + what + ")", IndexOutOfBoundsException.class, () -> node.out(k, what));
    }

    /** Puts frames into the outbox that can be told apart. */
    private static void send(MappedBusNode node, int from, int to) {
        for (int k = from; k < to; k++) {
            node.frame(0x602, 8, 0xE0 | k << 8, 0);
        }
    }

    private static void busy() {
        Bench b = new Bench(2);
        Bench.due("at first", b.node.busy(), false);
        b.begin(0x20, 0x2000);
        Bench.due("a transfer of one byte", b.node.busy(), true);
        b.segment(0x0D, 1);
        Bench.due("after its last segment", b.node.busy(), false);
        b.begin(0x40, 0x2000);
        Bench.due("a READ in one frame", b.node.busy(), false);
        b.begin(0x40, 0x2005);
        Bench.due("a READ of 8 bytes", b.node.busy(), true);
        b.node.flush();
        Bench.due("after flush()", b.node.busy(), true);
        b.segment(0x70);
        Bench.due("after an abort", b.node.busy(), false);
    }

    private static void eachNumber() {
        MappedBusNode node = new MappedBusNode(2);
        for (int k = 1; k <= 32; k++) {
            Bench.due("outs()", node.outs(), k);
            send(node, k, k + 1);
        }
        Bench.due("outs() is 32 at most", node.outs(), 32);
        node.flush();
        Bench.due("outs() after flush()", node.outs(), 0);
    }

    private static void full() {
        MappedBusNode node = new MappedBusNode(2);
        send(node, 1, 50);
        Bench.due("outs()", node.outs(), 32);
        Bench.due("frame 0 is the first", node.out(0, 0), 0x702);
        for (int k = 1; k < 32; k++) {
            Bench.due("low of frame " + k, node.out(k, 2), 128 | k << 8);
        }
        node.flush();
        send(node, 100, 102);
        Bench.due("outs() after it was emptied", node.outs(), 2);
        Bench.due("low of frame 0", node.out(0, 2), 128 | 100 << 8);
        Bench.due("low of frame 1", node.out(1, 2), 128 | 101 << 8);
    }

    private static void laterOnes() {
        MappedBusNode node = new MappedBusNode(2);
        send(node, 1, 32);
        Bench.due("an answer without room", node.frame(0x602, 8, 0x0020002F, 7), 1);
        Bench.due("it was stored", node.value(0x2000, 0, 0), 7);
        Bench.due("a READ without room", node.frame(0x602, 8, 0x00200740, 0), 1);
        Bench.due("busy()", node.busy(), true);
        Bench.due("a segment without room", node.frame(0x602, 8, 0x60, 0), 1);
        node.flush();
        Bench.due("the next segment", node.frame(0x602, 8, 0x70, 0), 1);
        Bench.due("low of it", node.out(0, 2), 0x10 | 72 << 8 | 73 << 16 | 74 << 24);
    }

    private static void roomForOneOfTwo() {
        Bench b = Bench.giving(2, 255, Bench.name(0x2000, 1));
        send(b.node, 0, 31);
        Bench.due("two are sent", b.ask(0x2F, 0x2000, 0, 7), 2);
        Bench.due("outs()", b.node.outs(), 32);
        Bench.due("the first of them is kept", b.node.out(31, 0), 0x582);
        Bench.due("low of it", b.node.out(31, 2), 0x00200060);
        dueNone(b.node, 32, 0);
    }

    private static void eachWhat() {
        Bench b = Bench.giving(2, 255, Bench.name(0x2000, 1), Bench.name(0x2002, 4));
        b.node.set(0x2002, 0, 0xF5F4F3F2, 0);
        Bench.due("ID", b.node.out(0, 0), 0x182);
        Bench.due("how many bytes", b.node.out(0, 1), 5);
        Bench.due("low", b.node.out(0, 2), 0xF4F3F200);
        Bench.due("high", b.node.out(0, 3), 0xF5);
    }

    private static void bytesItHasNot() {
        Bench b = Bench.giving(2, 255, Bench.name(0x2001, 2));
        b.node.set(0x2005, 0, -1, -1);
        b.begin(0x40, 0x2005);
        b.segment(0x60);
        Bench.due("high of a frame of 8", b.node.out(0, 3), -1);
        b.node.flush();
        b.node.set(0x2001, 0, -1, -1);
        b.dueFrame("a frame of 2 in the same place", 0x182, 255, 255);
        b.command(129);
        b.dueFrame("a frame of 1 in the same place", 0x702, 0);
    }

    private static void noSuchFrame() {
        MappedBusNode node = new MappedBusNode(2);
        for (int what = 0; what < 4; what++) {
            for (int k : new int[] {-1, 1, 2, 31, 32, 256, Integer.MIN_VALUE, Integer.MAX_VALUE, 1 << 30}) {
                dueNone(node, k, what);
            }
        }
        send(node, 1, 40);
        Bench.due("out(31, 0)", node.out(31, 0), 0x582);
        dueNone(node, 32, 0);
        dueNone(node, 39, 0);
        dueNone(node, -1, 3);
        node.flush();
        dueNone(node, 0, 0);
        dueNone(node, 31, 0);
    }

    private static void noSuchWhat() {
        MappedBusNode node = new MappedBusNode(2);
        send(node, 1, 10);
        for (int k : new int[] {0, 5, 9}) {
            for (int what : new int[] {-1, 4, 5, -4, 256, Integer.MIN_VALUE, Integer.MAX_VALUE}) {
                dueNone(node, k, what);
            }
        }
        dueNone(node, -1, 4);
        dueNone(node, 10, -1);
    }

    private static void flush() {
        MappedBusNode node = new MappedBusNode(2);
        Bench.due("flush() of one", node.flush(), 1);
        Bench.due("flush() of none", node.flush(), 0);
        send(node, 0, 31);
        Bench.due("flush() of 31", node.flush(), 31);
        Bench.due("outs()", node.outs(), 0);
        dueNone(node, 0, 0);
    }

    private static void flushFull() {
        for (int more : new int[] {32, 33, 64, 300}) {
            MappedBusNode node = new MappedBusNode(2);
            node.flush();
            send(node, 0, more);
            Bench.due("flush() after " + more, node.flush(), 32);
            Bench.due("flush() again", node.flush(), 0);
        }
    }

    private static void nothingElse() {
        Bench b = Bench.giving(2, 2, Bench.name(0x2000, 1));
        b.write(0x1017, 0, 2, 2);
        b.node.tick();
        b.sync();
        b.node.set(0x2000, 0, 9, 0);
        b.begin(0x40, 0x2007);
        b.segment(0x60);
        b.node.flush();
        Bench.due("state()", b.node.state(), 5);
        Bench.due("busy()", b.node.busy(), true);
        b.dueBytes(0x2000, 0, 9);
        Bench.due("the LIFE count stays", b.node.tick(), 1);
        Bench.due("the SYNC count stays", b.sync(), 1);
        b.node.flush();
        b.segment(0x70);
        b.dueFrame("the transfer goes on", 0x582, 0x10, 72, 73, 74, 75, 76, 77, 78);
    }
}
