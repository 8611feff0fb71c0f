/** Promises 9, 10 and 11: outs, out and flush. */
final class OutboxTest {
    public static void main(String[] args) {
        fills();
        wrongOuts();
        flushKeepsTheRest();
        Bench.done();
    }

    private static void fills() {
        MappedBusNode node = new MappedBusNode(2);
        for (int k = 1; k < 32; k++) {
            Bench.due("outs()", node.outs(), k);
            Bench.due("request " + k, node.frame(0x602, 8, 0xE0 | k << 8, 0), 1);
        }
        Bench.due("outs() when full", node.outs(), 32);
        Bench.due("a frame that finds no room is counted", node.frame(0x602, 8, 0x00100040, 0), 1);
        Bench.due("a boot that finds no room is counted", node.frame(0, 2, 0x81, 0), 1);
        Bench.due("outs() stays", node.outs(), 32);
        Bench.due("frame 0", node.out(0, 0), 0x702);
        for (int k = 1; k < 32; k++) {
            Bench.due("ID of " + k, node.out(k, 0), 0x582);
            Bench.due("length of " + k, node.out(k, 1), 8);
            Bench.due("low of " + k, node.out(k, 2), 128 | k << 8);
            Bench.due("high of " + k, node.out(k, 3), 0x05040001);
        }
        Bench.due("flush()", node.flush(), 32);
        Bench.due("flush() again", node.flush(), 0);
        Bench.due("outs()", node.outs(), 0);
        node.frame(0x602, 8, 0x00100040, 0);
        Bench.due("outs() after flush", node.outs(), 1);
        Bench.due("out(0, 3) after flush", node.out(0, 3), 131473);
    }

    private static void wrongOuts() {
        MappedBusNode node = new MappedBusNode(2);
        int[][] wrong = {{1, 0}, {-1, 0}, {0, -1}, {0, 4}, {32, 0}, {31, 3}, {Integer.MAX_VALUE, 0},
            {Integer.MIN_VALUE, 0}, {0, Integer.MAX_VALUE}, {0, Integer.MIN_VALUE}, {1, -4}};
        for (int[] w : wrong) {
            Bench.dueThrow("out(" + w[0] + ", " + w[1] + ")", IndexOutOfBoundsException.class,
                    () -> node.out(w[0], w[1]));
        }
        node.flush();
        Bench.dueThrow("out(0, 0) when empty", IndexOutOfBoundsException.class, () -> node.out(0, 0));
        for (int k = 0; k < 40; k++) {
            node.frame(0, 2, 0x81, 0);
        }
        Bench.due("out(31, 0)", node.out(31, 0), 0x702);
        Bench.dueThrow("out(32, 0) when full", IndexOutOfBoundsException.class, () -> node.out(32, 0));
    }

    private static void flushKeepsTheRest() {
        Bench b = new Bench(2);
        b.map(0x1A00, Bench.name(0x2000, 1));
        b.command(1);
        b.node.set(0x2000, 0, 1, 0);
        b.ask(0x40, 0x2007, 0, 0);
        Bench.due("flush()", b.node.flush(), 2);
        Bench.due("state()", b.node.state(), 5);
        Bench.due("busy()", b.node.busy(), true);
        b.dueBytes(0x2000, 0, 1);
        Bench.due("nothing new to give", b.node.set(0x2000, 0, 1, 0), 0);
        b.segment(0x60);
        b.dueFrame("the transfer goes on", 0x582, 0, 65, 66, 67, 68, 69, 70, 71);
    }
}
