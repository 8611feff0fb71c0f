/** Boundary cases of promises 2 and 7: the commands, the state and to boot. */
final class CommandEdgeTest {
    private static final int[] COMMANDS = {1, 2, 128};
    private static final int[] STATES = {MappedBusNode.RUNNING, MappedBusNode.STOPPED, MappedBusNode.PRE};

    public static void main(String[] args) {
        Bench.edge("7", "THE STATE is PRE (127), RUNNING (5) or STOPPED (4)", CommandEdgeTest::numbers);
        Bench.edge("2", "ID 0 with just 2 bytes", CommandEdgeTest::justTwoBytes);
        Bench.edge("2", "byte 1 being 0 or N (else it is ignored)", CommandEdgeTest::forWhom);
        Bench.edge("2 and 7", "byte 0 is 1: the state becomes RUNNING; 2: STOPPED; 128: PRE",
                CommandEdgeTest::fromEachToEach);
        Bench.edge("2", "129: all entries become as at first, and the node boots", CommandEdgeTest::resetAll);
        Bench.edge("2", "130: those with an index below 0x2000 do, and it boots", CommandEdgeTest::resetOwn);
        Bench.edge("2", "with any other nothing happens", CommandEdgeTest::anyOther);
        Bench.edge("2", "When the state becomes RUNNING and was not, the SYNC count is 0",
                CommandEdgeTest::syncCount);
        Bench.edge("2", "the content of the giving map counts as GIVEN", CommandEdgeTest::countsAsGiven);
        Bench.edge("2 and 8", "When it becomes STOPPED, no transfer goes on", CommandEdgeTest::stopped);
        Bench.edge("2", "(what is in the outbox stays)", CommandEdgeTest::outboxStays);
        Bench.edge("2 and 8", "the state is PRE, no transfer goes on", CommandEdgeTest::bootEndsTransfers);
        Bench.edge("2 and 3", "all counts are 0", CommandEdgeTest::bootEndsCounts);
        Bench.done();
    }

    private static void numbers() {
        Bench.due("PRE", MappedBusNode.PRE, 127);
        Bench.due("RUNNING", MappedBusNode.RUNNING, 5);
        Bench.due("STOPPED", MappedBusNode.STOPPED, 4);
        Bench b = new Bench(7);
        Bench.due("state() at first", b.node.state(), 127);
        b.command(1);
        Bench.due("state() after 1", b.node.state(), 5);
        b.command(2);
        Bench.due("state() after 2", b.node.state(), 4);
    }

    private static void justTwoBytes() {
        for (int length = 0; length <= 8; length++) {
            for (int what : new int[] {1, 2, 129, 130}) {
                Bench b = new Bench(7);
                b.command(what == 1 ? 128 : 1);
                int before = b.node.state();
                Bench.due("command " + what + " with " + length, b.node.frame(0, length, what, 0),
                        length == 2 && what > 128 ? 1 : 0);
                Bench.due("state() after " + length + " bytes", b.node.state() != before, length == 2);
            }
        }
    }

    private static void forWhom() {
        for (int n : new int[] {1, 7, 15}) {
            for (int whom = 0; whom < 256; whom++) {
                MappedBusNode node = new MappedBusNode(n);
                Bench.due("answer for " + whom, node.frame(0, 2, 1 | whom << 8, 0), 0);
                Bench.due("state() of " + n + " for " + whom, node.state(), whom == 0 || whom == n ? 5 : 127);
                Bench.due("boot of " + n + " for " + whom, node.frame(0, 2, 129 | whom << 8, 0),
                        whom == 0 || whom == n ? 1 : 0);
            }
        }
    }

    private static void fromEachToEach() {
        for (int from = 0; from < 3; from++) {
            for (int to = 0; to < 3; to++) {
                Bench b = new Bench(7);
                b.command(COMMANDS[from]);
                Bench.due("answer", b.come(0, COMMANDS[to], 7), 0);
                Bench.due("from " + STATES[from] + " to " + STATES[to], b.node.state(), STATES[to]);
                b.dueSilence("from " + STATES[from] + " to " + STATES[to]);
            }
        }
    }

    /** Every entry that can be changed is, in the state to which the command leads. */
    private static Bench changed(int command) {
        Bench b = new Bench(7);
        b.map(0x1600, Bench.name(0x2000, 1), Bench.name(0x2000, 1), Bench.name(0x2000, 1), Bench.name(0x2000, 1));
        b.map(0x1A00, Bench.name(0x2001, 2), Bench.name(0x2001, 2), Bench.name(0x2001, 2), Bench.name(0x1001, 1));
        b.write(0x1017, 0, 2, 0x0102);
        b.write(0x1800, 2, 1, 3);
        b.command(1);
        b.take();
        for (int index : new int[] {0x2000, 0x2001, 0x2002, 0x2003, 0x2005, 0x2006}) {
            b.node.set(index, 0, -1, -1);
        }
        b.begin(0x20, 0x2004);
        b.segment(0x00, 255, 255, 255, 255, 255, 255, 255);
        b.segment(0x15, 255, 255, 255, 255, 255);
        b.command(command);
        b.node.flush();
        Bench.due("ERROR", b.node.value(0x1001, 0, 0), 16);
        return b;
    }

    private static void resetAll() {
        for (int command : COMMANDS) {
            Bench b = changed(command);
            Bench.due("command 129", b.command(129), 1);
            b.dueFrame("command 129", 0x707, 0);
            NewObjectTest.entriesAreAsAtFirst(b.node);
            Bench.due("state()", b.node.state(), 127);
        }
    }

    private static void resetOwn() {
        for (int command : COMMANDS) {
            Bench b = changed(command);
            Bench.due("command 130", b.command(130), 1);
            b.dueFrame("command 130", 0x707, 0);
            Bench.due("state()", b.node.state(), 127);
            b.dueBytes(0x1000, 0, 0x91, 1, 2, 0);
            b.dueBytes(0x1001, 0, 0);
            b.dueBytes(0x1017, 0, 0, 0);
            b.dueBytes(0x1800, 2, 255);
            for (int map : new int[] {0x1600, 0x1A00}) {
                b.dueBytes(map, 0, 0);
                for (int sub = 1; sub <= 4; sub++) {
                    b.dueBytes(map, sub, 0, 0, 0, 0);
                }
            }
            for (int index = 0x2000; index <= 0x2006; index++) {
                for (int i = 0; i < b.node.size(index, 0); i++) {
                    Bench.due("byte " + i + " of " + index + " stays", b.node.value(index, 0, i), 255);
                }
            }
        }
    }

    private static void anyOther() {
        for (int what = 0; what < 256; what++) {
            if (what != 1 && what != 2 && (what < 128 || what > 130)) {
                Bench b = changed(what % 2 == 0 ? 1 : 128);
                int before = b.node.state();
                b.begin(0x40, 0x2007);
                Bench.due("command " + what, b.command(what), 0);
                b.dueSilence("command " + what);
                Bench.due("state() after " + what, b.node.state(), before);
                Bench.due("busy() after " + what, b.node.busy(), true);
                b.dueBytes(0x1017, 0, 2, 1);
                b.dueBytes(0x2000, 0, 255);
            }
        }
    }

    private static void syncCount() {
        for (int by : new int[] {128, 2}) {
            Bench b = Bench.giving(7, 2, Bench.name(0x2000, 1));
            Bench.due("first SYNC", b.sync(), 0);
            b.command(by);
            b.command(1);
            Bench.due("first SYNC of the new run", b.sync(), 0);
            Bench.due("second SYNC of the new run", b.sync(), 1);
        }
        Bench b = Bench.giving(7, 2, Bench.name(0x2000, 1));
        b.sync();
        b.command(1);
        Bench.due("second SYNC, as it was RUNNING", b.sync(), 1);
    }

    private static void countsAsGiven() {
        for (int by : new int[] {128, 2}) {
            for (int type : new int[] {0, 254, 255}) {
                Bench b = Bench.giving(7, type, Bench.name(0x2000, 1));
                b.command(by);
                Bench.due("set while not RUNNING", b.node.set(0x2000, 0, 5, 0), 0);
                Bench.due("RUNNING gives nothing", b.command(1), 0);
                Bench.due("SYNC gives nothing", b.sync(), 0);
                int sent = b.node.set(0x2000, 0, 0, 0) + b.sync();
                Bench.due("what was given before the run is new", sent, 1);
            }
        }
        Bench b = Bench.giving(7, 0, Bench.name(0x2000, 1));
        b.node.set(0x2000, 0, 5, 0);
        b.command(1);
        Bench.due("it was RUNNING, nothing counts as given", b.sync(), 1);
    }

    private static void stopped() {
        for (int first : new int[] {0x20, 0x40}) {
            for (int from : new int[] {1, 128}) {
                Bench b = new Bench(7);
                b.command(from);
                b.begin(first, 0x2004);
                b.command(from);
                Bench.due("busy() before", b.node.busy(), true);
                Bench.due("STOPPED", b.command(2), 0);
                Bench.due("busy() after", b.node.busy(), false);
                b.command(128);
                b.segment(first == 0x20 ? 0x00 : 0x60);
                b.dueAbort("a segment behind it", 0, 0, 0x05040001);
            }
        }
        Bench b = new Bench(7);
        b.begin(0x40, 0x2007);
        b.command(1);
        b.command(128);
        Bench.due("busy() after RUNNING and PRE", b.node.busy(), true);
        b.segment(0x60);
        b.dueFrame("the transfer goes on", 0x587, 0, 65, 66, 67, 68, 69, 70, 71);
    }

    private static void outboxStays() {
        MappedBusNode node = new MappedBusNode(7);
        node.frame(0x607, 8, 0x00100040, 0);
        Bench.due("boot", node.frame(0, 2, 129, 0), 1);
        Bench.due("boot again", node.frame(0, 2, 130, 0), 1);
        Bench.due("outs()", node.outs(), 4);
        Bench.due("frame 0", node.out(0, 0), 0x707);
        Bench.due("frame 1", node.out(1, 0), 0x587);
        Bench.due("high of frame 1", node.out(1, 3), 131473);
        Bench.due("frame 2", node.out(2, 0), 0x707);
        Bench.due("frame 3", node.out(3, 0), 0x707);
    }

    private static void bootEndsTransfers() {
        for (int command : new int[] {129, 130}) {
            for (int first : new int[] {0x20, 0x40}) {
                Bench b = new Bench(7);
                b.command(1);
                b.begin(first, 0x2004);
                b.command(command);
                Bench.due("busy()", b.node.busy(), false);
                Bench.due("state()", b.node.state(), 127);
                b.node.flush();
                b.segment(first == 0x20 ? 0x00 : 0x60);
                b.dueAbort("a segment behind it", 0, 0, 0x05040001);
            }
        }
    }

    private static void bootEndsCounts() {
        for (int command : new int[] {129, 130}) {
            Bench b = Bench.giving(7, 2, Bench.name(0x2000, 1));
            b.write(0x1017, 0, 2, 2);
            b.node.tick();
            b.sync();
            b.command(command);
            b.node.flush();
            Bench.due("LIFE is 0 again", b.node.tick() + b.node.tick(), 0);
            b.map(0x1A00, Bench.name(0x2000, 1));
            b.write(0x1800, 2, 1, 2);
            b.write(0x1017, 0, 2, 2);
            b.command(1);
            Bench.due("first SYNC", b.sync(), 0);
            Bench.due("first tick()", b.node.tick(), 0);
            Bench.due("second SYNC", b.sync(), 1);
            Bench.due("second tick()", b.node.tick(), 1);
        }
    }
}
