/** Boundary cases of promise 3: tick. */
final class TickEdgeTest {
    public static void main(String[] args) {
        Bench.edge("3", "when the value of LIFE is not 0", TickEdgeTest::noLife);
        Bench.edge("3", "the LIFE count grows by 1, and when it is that value or more, it becomes 0",
                TickEdgeTest::roundAfterRound);
        Bench.edge("3", "All numbers of more bytes have the lowest byte first", TickEdgeTest::lifeOfTwoBytes);
        Bench.edge("3", "when the value of LIFE is not 0", TickEdgeTest::lifeBesideMaps);
        Bench.edge("3", "a frame with the ID 0x700 + N and one byte, the state (whichever it is), is sent",
                TickEdgeTest::eachState);
        Bench.edge("3 and 8", "when they are 8, it is aborted with 0x05040000", TickEdgeTest::eightTicks);
        Bench.edge("3 and 8", "its ticks since its latest segment", TickEdgeTest::sinceTheSegment);
        Bench.edge("3 and 8", "(or its beginning)", TickEdgeTest::sinceTheBeginning);
        Bench.edge("3", "Then, when a transfer goes on", TickEdgeTest::lifeFirst);
        Bench.edge("3", "when a transfer goes on, its ticks", TickEdgeTest::withoutTransfer);
        Bench.edge("3", "Answers how many frames were sent", TickEdgeTest::howMany);
        Bench.done();
    }

    private static void wait(Bench b, int ticks) {
        for (int k = 1; k <= ticks; k++) {
            Bench.due("tick() " + k, b.node.tick(), 0);
        }
        Bench.due("busy() after " + ticks, b.node.busy(), true);
    }

    private static void dueTooLate(Bench b, int index, int sub) {
        b.node.flush();
        Bench.due("tick() 8", b.node.tick(), 1);
        b.dueAbort("tick() 8", index, sub, 0x05040000);
    }

    private static void noLife() {
        Bench b = new Bench(8);
        for (int k = 1; k <= 300; k++) {
            Bench.due("tick() " + k + " with LIFE 0", b.node.tick(), 0);
        }
        b.write(0x1017, 0, 2, 2);
        b.node.tick();
        b.write(0x1017, 0, 2, 0);
        for (int k = 1; k <= 10; k++) {
            Bench.due("tick() " + k + " with LIFE 0 again", b.node.tick(), 0);
        }
        b.write(0x1017, 0, 2, 2);
        Bench.due("tick() 1 of 2", b.node.tick(), 0);
        Bench.due("tick() 2 of 2", b.node.tick(), 1);
    }

    private static void roundAfterRound() {
        for (int life : new int[] {1, 2, 7}) {
            Bench b = new Bench(8);
            b.write(0x1017, 0, 2, life);
            for (int k = 1; k <= 5 * life; k++) {
                Bench.due("tick() " + k + " with LIFE " + life, b.node.tick(), k % life == 0 ? 1 : 0);
            }
            Bench.due("outs()", b.node.outs(), 5);
        }
    }

    private static void lifeOfTwoBytes() {
        for (int life : new int[] {255, 256, 257}) {
            Bench b = new Bench(8);
            b.write(0x1017, 0, 2, life);
            for (int k = 1; k <= 300; k++) {
                Bench.due("tick() " + k + " with LIFE " + life, b.node.tick(), k == life ? 1 : 0);
            }
        }
        for (int life : new int[] {0x0FFF, 0x8000, 0xFF01, 0xFFFF}) {
            Bench b = new Bench(8);
            b.write(0x1017, 0, 2, life);
            for (int k = 1; k <= 500; k++) {
                Bench.due("tick() " + k + " with LIFE " + life, b.node.tick(), 0);
            }
        }
    }

    private static void lifeBesideMaps() {
        Bench b = new Bench(8);
        b.map(0x1600, Bench.name(0x2000, 1));
        b.map(0x1A00, Bench.name(0x2000, 1));
        Bench.due("LIFE 0 beside maps", b.node.tick(), 0);
        b.write(0x1017, 0, 2, 1);
        Bench.due("LIFE 1 beside maps", b.node.tick(), 1);
    }

    private static void eachState() {
        for (int n : new int[] {1, 15}) {
            Bench b = new Bench(n);
            b.write(0x1017, 0, 2, 1);
            b.node.tick();
            b.dueFrame("PRE", 0x700 + n, 127);
            b.command(1);
            b.node.tick();
            b.dueFrame("RUNNING", 0x700 + n, 5);
            b.command(2);
            b.node.tick();
            b.dueFrame("STOPPED", 0x700 + n, 4);
        }
    }

    private static void eightTicks() {
        for (int state : new int[] {128, 1}) {
            Bench b = new Bench(8);
            b.command(state);
            b.begin(0x20, 0x2004);
            wait(b, 7);
            dueTooLate(b, 0x2004, 0);
            b.begin(0x40, 0x2007);
            wait(b, 7);
            dueTooLate(b, 0x2007, 0);
            b.ask(0x20, 0x1A00, 4, 0);
            wait(b, 7);
            dueTooLate(b, 0x1A00, 4);
            for (int k = 1; k <= 20; k++) {
                Bench.due("tick() " + k + " behind the abort", b.node.tick(), 0);
            }
            b.segment(0x60);
            b.dueAbort("a segment behind the abort", 0, 0, 0x05040001);
        }
    }

    private static void sinceTheSegment() {
        Bench b = new Bench(8);
        b.begin(0x20, 0x2004);
        wait(b, 7);
        b.segment(0x0E);
        wait(b, 7);
        b.segment(0x10, 1, 2, 3, 4, 5, 6, 7);
        wait(b, 7);
        dueTooLate(b, 0x2004, 0);
        b.dueBytes(0x2004, 0, 0, 0, 0, 0, 0, 0, 0, 0, 0, 0, 0, 0);
        b.begin(0x40, 0x2007);
        wait(b, 7);
        b.segment(0x60);
        wait(b, 7);
        b.segment(0x70);
        wait(b, 7);
        dueTooLate(b, 0x2007, 0);
    }

    private static void sinceTheBeginning() {
        Bench b = new Bench(8);
        b.begin(0x20, 0x2004);
        wait(b, 7);
        b.begin(0x40, 0x2007);
        wait(b, 7);
        b.begin(0x20, 0x2005);
        wait(b, 3);
        b.sync();
        b.command(1);
        b.take(1);
        b.node.set(0x2000, 0, 1, 0);
        b.come(0x607, 0x0E, 0, 0, 0, 0, 0, 0, 0);
        b.come(0x608, 0x0E);
        wait(b, 4);
        dueTooLate(b, 0x2005, 0);
    }

    private static void lifeFirst() {
        Bench b = new Bench(8);
        b.write(0x1017, 0, 2, 8);
        b.begin(0x40, 0x2005);
        wait(b, 7);
        Bench.due("both", b.node.tick(), 2);
        b.dueNext("LIFE first", 0, 0x708, 127);
        b.dueNext("then the abort", 1, 0x588, 128, 0x05, 0x20, 0, 0, 0, 0x04, 0x05);
        Bench.due("outs()", b.node.outs(), 2);
    }

    private static void withoutTransfer() {
        Bench b = new Bench(8);
        b.begin(0x40, 0x2007);
        wait(b, 7);
        b.ask(0x80, 0, 0, 0);
        for (int k = 1; k <= 10; k++) {
            Bench.due("tick() " + k + " without a transfer", b.node.tick(), 0);
        }
        b.begin(0x40, 0x2007);
        wait(b, 7);
        dueTooLate(b, 0x2007, 0);
    }

    private static void howMany() {
        Bench b = new Bench(8);
        for (int k = 0; k < 33; k++) {
            b.ask(0x40, 0x1000, 0, 0);
        }
        b.ask(0x2B, 0x1017, 0, 8);
        b.ask(0x40, 0x2007, 0, 0);
        wait(b, 7);
        Bench.due("two that find no room", b.node.tick(), 2);
        Bench.due("outs()", b.node.outs(), 32);
        Bench.due("busy()", b.node.busy(), false);
    }
}
