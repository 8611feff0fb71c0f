/** Boundary cases of promise 2: wrong frames, frames that are ignored, and how many frames were sent. */
final class FrameEdgeTest {
    public static void main(String[] args) {
        Bench.edge("2", "IllegalArgumentException when id is not 0 .. 2047", FrameEdgeTest::wrongId);
        Bench.edge("2", "or length not 0 .. 8", FrameEdgeTest::wrongLength);
        Bench.edge("2", "nothing happens", FrameEdgeTest::nothingHappens);
        Bench.edge("2", "(Bytes that it has not are not looked at.)", FrameEdgeTest::bytesItHasNot);
        Bench.edge("2", "with 8 bytes, PRE or RUNNING: a REQUEST", FrameEdgeTest::requests);
        Bench.edge("2", "All others are ignored", FrameEdgeTest::ignored);
        Bench.edge("2", "how many frames were sent by it", FrameEdgeTest::howMany);
        Bench.done();
    }

    private static void dueRefused(MappedBusNode node, int id, int length, int low) {
        Bench.dueThrow("frame(" + id + ", " + length + ")", IllegalArgumentException.class,
                () -> node.frame(id, length, low, 0));
    }

    private static void wrongId() {
        MappedBusNode node = new MappedBusNode(2);
        for (int id : new int[] {-1, 2048, 2049, -2048, 0x10000, 0x10602, 0x602 - 0x800,
            Integer.MIN_VALUE, Integer.MAX_VALUE}) {
            for (int length : new int[] {0, 2, 8}) {
                dueRefused(node, id, length, 0x00100040);
            }
        }
        for (int length = 0; length <= 8; length++) {
            Bench.due("frame(0, " + length + ")", node.frame(0, length, 0, 0), 0);
            Bench.due("frame(2047, " + length + ")", node.frame(2047, length, 0, 0), 0);
        }
        Bench.due("outs()", node.outs(), 1);
    }

    private static void wrongLength() {
        MappedBusNode node = new MappedBusNode(2);
        for (int length : new int[] {-1, 9, 10, -8, 256, 258, 264, Integer.MIN_VALUE, Integer.MIN_VALUE + 2,
            Integer.MAX_VALUE}) {
            for (int id : new int[] {0, 0x80, 0x202, 0x602, 3, 2047}) {
                dueRefused(node, id, length, 0x00100040);
            }
        }
        dueRefused(node, 2048, 9, 0);
        Bench.due("outs()", node.outs(), 1);
        Bench.due("a length of 0", node.frame(0x602, 0, 0x00100040, 0), 0);
        Bench.due("a length of 8", node.frame(0x602, 8, 0x00100040, 0), 1);
    }

    private static void nothingHappens() {
        Bench b = new Bench(2);
        b.map(0x1600, Bench.name(0x2000, 1));
        b.map(0x1A00, Bench.name(0x2001, 2));
        b.write(0x1800, 2, 1, 2);
        b.command(1);
        b.sync();
        b.begin(0x40, 0x2007);
        dueRefused(b.node, 0x80, 9, 0);
        dueRefused(b.node, 0x202, 9, 1);
        dueRefused(b.node, 0x202, -1, 1);
        dueRefused(b.node, 0x602, 9, 0x60);
        dueRefused(b.node, 0, -1, 2);
        dueRefused(b.node, 2048, 2, 2);
        dueRefused(b.node, -1, 2, 0x81);
        b.dueSilence("wrong frames");
        Bench.due("state()", b.node.state(), 5);
        Bench.due("busy()", b.node.busy(), true);
        b.dueBytes(0x2000, 0, 0);
        b.dueBytes(0x1001, 0, 0);
        b.segment(0x60);
        b.dueFrame("the segment that was due", 0x582, 0, 65, 66, 67, 68, 69, 70, 71);
        Bench.due("the second SYNC", b.sync(), 1);
    }

    private static void bytesItHasNot() {
        Bench b = Bench.taking(2, Bench.name(0x2001, 2));
        b.node.frame(0x202, 1, 0x0707, 0);
        b.dueBytes(0x2001, 0, 0, 0);
        b.dueBytes(0x1001, 0, 16);
        b.node.frame(0x202, 2, 0xFFFF0605, -1);
        b.dueBytes(0x2001, 0, 5, 6);
        b.node.frame(0, 2, 0xFFFF0002, -1);
        Bench.due("a command with 2 bytes", b.node.state(), 4);
        b.node.frame(0, 1, 0x0001, 0);
        Bench.due("a command with 1 byte", b.node.state(), 4);
    }

    private static void requests() {
        Bench b = new Bench(2);
        for (int length = 0; length < 8; length++) {
            Bench.due("a request of " + length, b.node.frame(0x602, length, 0x00100040, 0), 0);
        }
        Bench.due("PRE", b.ask(0x40, 0x1000, 0, 0), 1);
        b.command(1);
        Bench.due("RUNNING", b.ask(0x40, 0x1000, 0, 0), 1);
        b.command(2);
        Bench.due("STOPPED, READ", b.ask(0x40, 0x1000, 0, 0), 0);
        Bench.due("STOPPED, WRITE", b.ask(0x2F, 0x2000, 0, 7), 0);
        Bench.due("STOPPED, unknown", b.ask(0xE0, 0x2000, 0, 7), 0);
        b.dueBytes(0x2000, 0, 0);
        b.begin(0x40, 0x2007);
        Bench.due("no transfer begins when STOPPED", b.node.busy(), false);
    }

    private static void ignored() {
        Bench b = new Bench(2);
        b.map(0x1600, Bench.name(0x2000, 1));
        b.map(0x1A00, Bench.name(0x2001, 2));
        b.write(0x1800, 2, 1, 1);
        b.command(1);
        b.begin(0x40, 0x2007);
        for (int id : new int[] {1, 2, 0x7F, 0x81, 0x82, 0x180, 0x182, 0x200, 0x201, 0x203, 0x210, 0x280,
            0x580, 0x582, 0x600, 0x601, 0x603, 0x610, 0x612, 0x700, 0x702, 2047}) {
            for (int length : new int[] {0, 2, 8}) {
                Bench.due("frame(" + id + ", " + length + ")", b.node.frame(id, length, 0x60, 0), 0);
            }
        }
        Bench.due("outs()", b.node.outs(), 0);
        Bench.due("state()", b.node.state(), 5);
        Bench.due("busy()", b.node.busy(), true);
        b.dueBytes(0x2000, 0, 0);
        b.dueBytes(0x1001, 0, 0);
        for (int length = 0; length < 8; length++) {
            b.node.frame(0x602, length, 0x80, 0);
        }
        Bench.due("busy() after requests that are too short", b.node.busy(), true);
    }

    private static void howMany() {
        Bench b = Bench.giving(2, 255, Bench.name(0x2000, 1));
        Bench.due("none", b.sync(), 0);
        Bench.due("an answer", b.ask(0x2F, 0x2001, 0, 1), 1);
        Bench.due("an answer and what is given", b.ask(0x2F, 0x2000, 0, 1), 2);
        for (int k = 0; k < 40; k++) {
            b.ask(0x40, 0x2000, 0, 0);
        }
        Bench.due("outs()", b.node.outs(), 32);
        Bench.due("two that find no room", b.ask(0x2F, 0x2000, 0, 2), 2);
        Bench.due("one that finds no room", b.command(129), 1);
        Bench.due("outs()", b.node.outs(), 32);
    }
}
