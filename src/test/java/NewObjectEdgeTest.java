/** Boundary cases of promise 1, and of how long an object is used. */
final class NewObjectEdgeTest {
    public static void main(String[] args) {
        Bench.edge("1", "N is number, but 1 when that is less", NewObjectEdgeTest::less);
        Bench.edge("1", "and 15 when it is more", NewObjectEdgeTest::more);
        Bench.edge("1", "All entries are as at first", NewObjectEdgeTest::asAtFirst);
        Bench.edge("1", "the node boots (so outs() is 1)", NewObjectEdgeTest::boots);
        Bench.edge("1 to 11", "An object is used for at most 512 calls after it has been made",
                NewObjectEdgeTest::lastCall);
        Bench.edge("1 to 11", "at most 512 calls", NewObjectEdgeTest::lastCallOfATransfer);
        Bench.done();
    }

    /** The number shows in what it sends, in what it hears and in the commands that are for it. */
    private static void dueNumber(int given, int n) {
        MappedBusNode node = new MappedBusNode(given);
        String what = "new(" + given + ")";
        Bench.due(what + ": ID of the boot", node.out(0, 0), 0x700 + n);
        Bench.due(what + ": request to one less", node.frame(0x600 + n - 1, 8, 0x00100040, 0), 0);
        Bench.due(what + ": request to one more", node.frame(0x600 + n + 1, 8, 0x00100040, 0), 0);
        Bench.due(what + ": request", node.frame(0x600 + n, 8, 0x00100040, 0), 1);
        Bench.due(what + ": ID of the answer", node.out(1, 0), 0x580 + n);
        node.frame(0, 2, 1 | n + 1 << 8, 0);
        Bench.due(what + ": command for one more", node.state(), MappedBusNode.PRE);
        node.frame(0, 2, 1 | n << 8, 0);
        Bench.due(what + ": command", node.state(), MappedBusNode.RUNNING);
    }

    private static void less() {
        dueNumber(2, 2);
        dueNumber(1, 1);
        dueNumber(0, 1);
        dueNumber(-1, 1);
        dueNumber(-15, 1);
        dueNumber(Integer.MIN_VALUE, 1);
    }

    private static void more() {
        dueNumber(14, 14);
        dueNumber(15, 15);
        dueNumber(16, 15);
        dueNumber(17, 15);
        dueNumber(256, 15);
        dueNumber(Integer.MAX_VALUE, 15);
    }

    private static void asAtFirst() {
        NewObjectTest.entriesAreAsAtFirst(new MappedBusNode(1));
        NewObjectTest.entriesAreAsAtFirst(new MappedBusNode(15));
        MappedBusNode changed = new MappedBusNode(1);
        changed.set(0x2000, 0, 9, 0);
        NewObjectTest.entriesAreAsAtFirst(new MappedBusNode(1));
    }

    private static void boots() {
        MappedBusNode node = new MappedBusNode(6);
        Bench.due("outs()", node.outs(), 1);
        Bench.due("ID", node.out(0, 0), 0x706);
        Bench.due("one byte", node.out(0, 1), 1);
        Bench.due("low", node.out(0, 2), 0);
        Bench.due("high", node.out(0, 3), 0);
        Bench.due("state()", node.state(), 127);
        Bench.due("busy()", node.busy(), false);
        Bench.due("flush()", node.flush(), 1);
    }

    private static void lastCall() {
        MappedBusNode node = new MappedBusNode(6);
        Bench.due("call 1, LIFE = 1", node.frame(0x606, 8, 0x0010172B, 1), 1);
        for (int call = 2; call <= 510; call++) {
            Bench.due("call " + call + ", tick()", node.tick(), 1);
        }
        Bench.due("call 511, flush()", node.flush(), 32);
        Bench.due("call 512, tick()", node.tick(), 1);
    }

    private static void lastCallOfATransfer() {
        MappedBusNode node = new MappedBusNode(6);
        Bench.due("call 1, WRITE", node.frame(0x606, 8, 0x00200520, 0), 1);
        for (int call = 2; call <= 509; call++) {
            Bench.due("call " + call + ", no bytes", node.frame(0x606, 8, call % 2 == 0 ? 0x0E : 0x1E, 0), 1);
        }
        Bench.due("call 510, 7 bytes", node.frame(0x606, 8, 0x03020100, 0x07060504), 1);
        Bench.due("call 511, the last one", node.frame(0x606, 8, 0x081D, 0), 1);
        Bench.due("call 512, value()", node.value(0x2005, 0, 7), 8);
    }
}
