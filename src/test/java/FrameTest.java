/** Promise 2: which frames a node hears, and the commands that change its state (promise 7 with them). */
final class FrameTest {
    public static void main(String[] args) {
        wrongFrames();
        foreignFrames();
        commands();
        commandsForWhom();
        resets();
        commandsAndTransfers();
        Bench.done();
    }

    private static void wrongFrames() {
        Bench b = new Bench(2);
        b.ask(0x20, 0x2004, 0, 0);
        b.node.flush();
        int[][] wrong = {{-1, 0}, {2048, 0}, {Integer.MIN_VALUE, 2}, {Integer.MAX_VALUE, 2},
            {0, -1}, {0, 9}, {0x602, 9}, {0x80, Integer.MIN_VALUE}, {0x80, Integer.MAX_VALUE}};
        for (int[] w : wrong) {
            Bench.dueThrow("frame(" + w[0] + ", " + w[1] + ")", IllegalArgumentException.class,
                    () -> b.node.frame(w[0], w[1], 0x82, 0));
        }
        b.dueSilence("after wrong frames");
        Bench.due("busy() after wrong frames", b.node.busy(), true);
        Bench.due("frame(2047, 8)", b.node.frame(2047, 8, -1, -1), 0);
        Bench.due("frame(0, 0)", b.node.frame(0, 0, 0x82, 0), 0);
    }

    private static void foreignFrames() {
        for (int id = 0; id < 2048; id++) {
            MappedBusNode node = new MappedBusNode(2);
            Bench.due("frame(" + id + ") in PRE", node.frame(id, 8, 0x00100040, 0), id == 0x602 ? 1 : 0);
        }
        Bench b = new Bench(2);
        for (int length = 0; length < 8; length++) {
            Bench.due("request of " + length, b.node.frame(0x602, length, 0x00100040, 0), 0);
        }
        Bench.due("request of 8", b.node.frame(0x602, 8, 0x00100040, 0), 1);
        b.dueAnswer("read 1000", 0x43, 0x1000, 0, 131473);
        b.command(1);
        Bench.due("request, RUNNING", b.ask(0x40, 0x1000, 0, 0), 1);
        b.command(2);
        Bench.due("request, STOPPED", b.ask(0x40, 0x1000, 0, 0), 0);
        b.command(128);
        Bench.due("request, PRE again", b.ask(0x40, 0x1000, 0, 0), 1);
    }

    private static void commands() {
        int[] what = {1, 2, 128};
        int[] state = {5, 4, 127};
        for (int from = 0; from < 3; from++) {
            for (int to = 0; to < 3; to++) {
                Bench b = new Bench(7);
                b.command(what[from]);
                Bench.due("command answers", b.command(what[to]), 0);
                Bench.due("state from " + from + " to " + to, b.node.state(), state[to]);
                b.dueSilence("after commands");
            }
        }
        for (int other = 0; other < 256; other++) {
            if (other != 1 && other != 2 && other < 128 || other > 130) {
                Bench b = new Bench(7);
                b.command(1);
                Bench.due("command " + other, b.command(other), 0);
                Bench.due("state after " + other, b.node.state(), 5);
                b.dueSilence("after command " + other);
            }
        }
    }

    private static void commandsForWhom() {
        for (int whom = 1; whom < 256; whom++) {
            Bench other = new Bench(7);
            other.come(0, 1, whom);
            Bench.due("state after a command for " + whom, other.node.state(), whom == 7 ? 5 : 127);
        }
        Bench b = new Bench(7);
        for (int length = 0; length <= 8; length++) {
            if (length != 2) {
                b.node.frame(0, length, 1, 0);
                Bench.due("state after " + length + " bytes", b.node.state(), 127);
            }
        }
        b.node.frame(0, 2, 0xABCD0701, -1);
        Bench.due("bytes it has not are not looked at", b.node.state(), 5);
    }

    private static Bench changed() {
        Bench b = new Bench(9);
        b.map(0x1600, Bench.name(0x2000, 1));
        b.map(0x1A00, Bench.name(0x2001, 2), Bench.name(0x1001, 1));
        b.write(0x1017, 0, 2, 0x0102);
        b.write(0x1800, 2, 1, 3);
        for (int index = 0x2000; index <= 0x2006; index++) {
            if (index != 0x2004) {
                b.node.set(index, 0, -1, -1);
            }
        }
        b.ask(0x21, 0x2004, 0, 12);
        b.segment(0x00, 1, 2, 3, 4, 5, 6, 7);
        b.segment(0x15, 8, 9, 10, 11, 12);
        b.command(1);
        b.take();
        b.ask(0x40, 0x2007, 0, 0);
        b.node.flush();
        Bench.due("ERROR before the reset", b.node.value(0x1001, 0, 0), 16);
        Bench.due("busy() before the reset", b.node.busy(), true);
        return b;
    }

    private static void resets() {
        Bench b = changed();
        Bench.due("command 129", b.command(129), 1);
        b.dueFrame("boot", 0x709, 0);
        Bench.due("state()", b.node.state(), 127);
        Bench.due("busy()", b.node.busy(), false);
        NewObjectTest.entriesAreAsAtFirst(b.node);

        b = changed();
        b.sync();
        Bench.due("command 130", b.command(130), 1);
        b.dueFrame("boot", 0x709, 0);
        Bench.due("state()", b.node.state(), 127);
        Bench.due("busy()", b.node.busy(), false);
        b.dueBytes(0x2000, 0, 255);
        b.dueBytes(0x2001, 0, 255, 255);
        b.dueBytes(0x2002, 0, 255, 255, 255, 255);
        b.dueBytes(0x2003, 0, 255, 255, 255, 255);
        b.dueBytes(0x2004, 0, 1, 2, 3, 4, 5, 6, 7, 8, 9, 10, 11, 12);
        b.dueBytes(0x2005, 0, 255, 255, 255, 255, 255, 255, 255, 255);
        b.dueBytes(0x2006, 0, 255, 255);
        b.dueBytes(0x1000, 0, 0x91, 1, 2, 0);
        b.dueBytes(0x1001, 0, 0);
        b.dueBytes(0x1017, 0, 0, 0);
        b.dueBytes(0x1600, 0, 0);
        b.dueBytes(0x1600, 1, 0, 0, 0, 0);
        b.dueBytes(0x1800, 2, 255);
        b.dueBytes(0x1A00, 0, 0);
        b.dueBytes(0x1A00, 1, 0, 0, 0, 0);
        b.dueBytes(0x1A00, 2, 0, 0, 0, 0);

        b = changed();
        b.command(2);
        b.sync();
        Bench.due("command 130 when STOPPED", b.command(130), 1);
        b.command(1);
        Bench.due("what is in the outbox stays", b.command(129), 1);
        Bench.due("outs() after two boots", b.node.outs(), 2);
    }

    private static void commandsAndTransfers() {
        Bench b = new Bench(1);
        b.ask(0x40, 0x2007, 0, 0);
        b.command(1);
        Bench.due("busy() from PRE to RUNNING", b.node.busy(), true);
        b.command(128);
        Bench.due("busy() from RUNNING to PRE", b.node.busy(), true);
        b.command(77);
        Bench.due("busy() after an unknown command", b.node.busy(), true);
        b.command(2);
        Bench.due("busy() when STOPPED", b.node.busy(), false);
        b.command(128);
        b.node.flush();
        b.segment(0x60);
        b.dueAbort("a segment after the stop", 0, 0, 0x05040001);
    }
}
