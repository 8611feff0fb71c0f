/** Promise 3: tick (promise 8 with it). */
final class TickTest {
    public static void main(String[] args) {
        life();
        lifeCountIsZeroed();
        lateTransfers();
        segmentsKeepAlive();
        both();
        ticksGiveNothing();
        Bench.done();
    }

    private static void life() {
        for (int life : new int[] {1, 2, 5, 258}) {
            Bench b = new Bench(8);
            for (int k = 0; k < 20; k++) {
                Bench.due("tick() without LIFE", b.node.tick(), 0);
            }
            b.write(0x1017, 0, 2, life);
            int rounds = life < 100 ? 2 : 1;
            for (int round = 0; round < rounds; round++) {
                for (int k = 1; k < life; k++) {
                    Bench.due("tick() " + k + " of " + life, b.node.tick(), 0);
                }
                Bench.due("tick() " + life, b.node.tick(), 1);
                b.dueFrame("sign of life", 0x708, 127);
            }
        }
        Bench b = new Bench(8);
        b.write(0x1017, 0, 2, 1);
        b.command(1);
        b.node.tick();
        b.dueFrame("sign of life", 0x708, 5);
        b.command(2);
        b.node.tick();
        b.dueFrame("sign of life", 0x708, 4);
    }

    private static void lifeCountIsZeroed() {
        Bench b = new Bench(8);
        b.write(0x1017, 0, 2, 3);
        b.node.tick();
        b.node.tick();
        b.write(0x1017, 0, 2, 3);
        Bench.due("tick() after LIFE was stored", b.node.tick(), 0);
        b.node.tick();
        b.command(1);
        b.command(2);
        b.command(128);
        Bench.due("tick() after the state changed", b.node.tick(), 1);
        b.node.tick();
        b.node.tick();
        b.command(129);
        b.node.flush();
        b.write(0x1017, 0, 2, 3);
        Bench.due("tick() after the boot", b.node.tick(), 0);
        b.write(0x1017, 0, 2, 0);
        b.node.tick();
        b.writeFails(0x1017, 0, 1, 1, 0x06070013);
        Bench.due("tick() with LIFE 0", b.node.tick(), 0);
    }

    private static void lateTransfers() {
        Bench b = new Bench(8);
        b.ask(0x20, 0x1A00, 3, 0);
        b.node.flush();
        wait(b, 7);
        Bench.due("tick() 8", b.node.tick(), 1);
        b.dueAbort("too late", 0x1A00, 3, 0x05040000);
        Bench.due("tick() 9", b.node.tick(), 0);
        b.ask(0x40, 0x2007, 0, 0);
        b.node.flush();
        b.command(1);
        wait(b, 7);
        Bench.due("tick() 8", b.node.tick(), 1);
        b.dueAbort("too late", 0x2007, 0, 0x05040000);
    }

    private static void wait(Bench b, int ticks) {
        for (int k = 1; k <= ticks; k++) {
            Bench.due("tick() " + k + " of a transfer", b.node.tick(), 0);
            Bench.due("busy() after " + k, b.node.busy(), true);
        }
    }

    private static void segmentsKeepAlive() {
        Bench b = new Bench(8);
        b.ask(0x40, 0x2007, 0, 0);
        wait(b, 7);
        b.segment(0x60);
        wait(b, 7);
        b.segment(0x70);
        wait(b, 5);
        b.ask(0x20, 0x2004, 0, 0);
        wait(b, 7);
        b.segment(0x00, 1, 2, 3, 4, 5, 6, 7);
        wait(b, 3);
        b.command(1);
        b.sync();
        b.node.set(0x2004 + 1, 0, 0, 0);
        wait(b, 4);
        b.node.flush();
        Bench.due("tick() 8 since the segment", b.node.tick(), 1);
        b.dueAbort("too late", 0x2004, 0, 0x05040000);
    }

    private static void both() {
        Bench b = new Bench(8);
        b.write(0x1017, 0, 2, 8);
        b.ask(0x40, 0x2005, 0, 0);
        b.node.flush();
        wait(b, 7);
        Bench.due("tick() for both", b.node.tick(), 2);
        b.dueNext("sign of life first", 0, 0x708, 127);
        b.dueNext("then the abort", 1, 0x588, 128, 0x05, 0x20, 0, 0, 0, 0x04, 0x05);
    }

    private static void ticksGiveNothing() {
        Bench b = new Bench(8);
        b.map(0x1A00, Bench.name(0x2000, 1));
        b.command(1);
        b.node.set(0x2000, 0, 1, 0);
        Bench.due("tick() gives nothing", b.node.tick(), 0);
    }
}
