/** Promise 2: transfers, segment by segment (promise 8 with them). */
final class SegmentTest {
    public static void main(String[] args) {
        written();
        writtenInOddParts();
        wrongTurns();
        tooManyAndTooFew();
        notDue();
        readOut();
        readAsItIsThen();
        smallOnesAndMaps();
        Bench.done();
    }

    private static void written() {
        Bench b = new Bench(15);
        b.ask(0x21, 0x2004, 0, 12);
        b.dueAnswer("begin", 0x60, 0x2004, 0, 0);
        Bench.due("first segment", b.segment(0x00, 1, 2, 3, 4, 5, 6, 7), 1);
        b.dueFrame("first segment", 0x58F, 0x20, 0, 0, 0, 0, 0, 0, 0);
        b.dueBytes(0x2004, 0, 0, 0, 0, 0, 0, 0, 0, 0, 0, 0, 0, 0);
        Bench.due("busy()", b.node.busy(), true);
        Bench.due("last segment", b.segment(0x15, 8, 9, 10, 11, 255, 77, 78), 1);
        b.dueFrame("last segment", 0x58F, 0x30, 0, 0, 0, 0, 0, 0, 0);
        b.dueBytes(0x2004, 0, 1, 2, 3, 4, 5, 6, 7, 8, 9, 10, 11, 255);
        Bench.due("busy()", b.node.busy(), false);
    }

    private static void writtenInOddParts() {
        Bench b = new Bench(15);
        b.ask(0x20, 0x2005, 0, 0);
        b.node.flush();
        b.segment(0x0E, 99, 99, 99, 99, 99, 99, 99);
        b.dueFrame("no bytes", 0x58F, 0x20, 0, 0, 0, 0, 0, 0, 0);
        b.segment(0x1C, 1, 99, 99, 99, 99, 99, 99);
        b.dueFrame("one byte", 0x58F, 0x30, 0, 0, 0, 0, 0, 0, 0);
        b.segment(0x00, 2, 3, 4, 5, 6, 7, 8);
        b.dueFrame("seven bytes, not the last", 0x58F, 0x20, 0, 0, 0, 0, 0, 0, 0);
        Bench.due("busy() though all bytes are there", b.node.busy(), true);
        b.dueBytes(0x2005, 0, 0, 0, 0, 0, 0, 0, 0, 0);
        b.segment(0x1F);
        b.dueFrame("the last without bytes", 0x58F, 0x30, 0, 0, 0, 0, 0, 0, 0);
        Bench.due("busy()", b.node.busy(), false);
        b.dueBytes(0x2005, 0, 1, 2, 3, 4, 5, 6, 7, 8);
    }

    private static void wrongTurns() {
        Bench b = new Bench(15);
        b.ask(0x20, 0x2005, 0, 0);
        b.node.flush();
        b.segment(0x10, 1, 2, 3, 4, 5, 6, 7);
        b.dueAbort("first turn is 0", 0x2005, 0, 0x05030000);
        b.ask(0x20, 0x2005, 0, 0);
        b.segment(0x00, 1, 2, 3, 4, 5, 6, 7);
        b.node.flush();
        b.segment(0x0D, 8);
        b.dueAbort("second turn is 1", 0x2005, 0, 0x05030000);
        b.dueBytes(0x2005, 0, 0, 0, 0, 0, 0, 0, 0, 0);
        b.ask(0x40, 0x2007, 0, 0);
        b.node.flush();
        b.segment(0x70);
        b.dueAbort("first turn is 0 when reading", 0x2007, 0, 0x05030000);
        b.ask(0x40, 0x2007, 0, 0);
        b.segment(0x60);
        b.node.flush();
        b.segment(0x60);
        b.dueAbort("second turn is 1 when reading", 0x2007, 0, 0x05030000);
        b.ask(0x40, 0x2007, 0, 0);
        b.segment(0x60);
        b.ask(0x40, 0x2007, 0, 0);
        b.node.flush();
        b.segment(0x60);
        b.dueFrame("a new transfer begins with turn 0", 0x58F, 0x00, 65, 66, 67, 68, 69, 70, 71);
    }

    private static void tooManyAndTooFew() {
        Bench b = new Bench(15);
        for (int last = 0; last < 2; last++) {
            b.ask(0x20, 0x2005, 0, 0);
            b.segment(0x00, 1, 2, 3, 4, 5, 6, 7);
            b.node.flush();
            b.segment(0x1A + last, 8, 9);
            b.dueAbort("9 bytes into 8", 0x2005, 0, 0x06070012);
        }
        b.ask(0x20, 0x2005, 0, 0);
        b.segment(0x00, 1, 2, 3, 4, 5, 6, 7);
        b.node.flush();
        b.segment(0x1F);
        b.dueAbort("7 bytes into 8", 0x2005, 0, 0x06070013);
        b.ask(0x20, 0x2000, 0, 0);
        b.node.flush();
        b.segment(0x0B, 1, 2);
        b.dueAbort("2 bytes into 1", 0x2000, 0, 0x06070012);
        b.dueBytes(0x2005, 0, 0, 0, 0, 0, 0, 0, 0, 0);
        b.dueBytes(0x2000, 0, 0);
    }

    private static void notDue() {
        for (int first = 0; first < 0x20; first++) {
            Bench b = new Bench(15);
            b.segment(first, 0x04, 0x20, 0, 1);
            b.dueAbort("a written segment without a transfer", 0, 0, 0x05040001);
            b.segment(0x60 + first, 0x04, 0x20, 0, 1);
            b.dueAbort("a read segment without a transfer", 0, 0, 0x05040001);
        }
        Bench b = new Bench(15);
        b.ask(0x20, 0x2004, 0, 0);
        b.node.flush();
        b.segment(0x60, 0x00, 0x20);
        b.dueAbort("a read segment while writing", 0x2004, 0, 0x05040001);
        b.ask(0x40, 0x2005, 0, 0);
        b.node.flush();
        b.segment(0x00, 0x00, 0x20);
        b.dueAbort("a written segment while reading", 0x2005, 0, 0x05040001);
        b.segment(0x60);
        b.dueAbort("after an abort", 0, 0, 0x05040001);
        b.ask(0x40, 0x2005, 0, 0);
        b.ask(0x80, 0x2005, 0, 0);
        b.node.flush();
        b.segment(0x60);
        b.dueAbort("after the client's abort", 0, 0, 0x05040001);
    }

    private static void readOut() {
        Bench b = new Bench(15);
        b.ask(0x40, 0x2007, 0, 0);
        b.dueAnswer("begin", 0x41, 0x2007, 0, 20);
        b.segment(0x6F, 1, 2, 3, 4, 5, 6, 7);
        b.dueFrame("first", 0x58F, 0x00, 65, 66, 67, 68, 69, 70, 71);
        b.segment(0x70);
        b.dueFrame("second", 0x58F, 0x10, 72, 73, 74, 75, 76, 77, 78);
        Bench.due("busy()", b.node.busy(), true);
        b.segment(0x60);
        b.dueFrame("third", 0x58F, 0x03, 79, 80, 81, 82, 83, 84, 0);
        Bench.due("busy()", b.node.busy(), false);
        b.node.set(0x2005, 0, 0x84838281, 0x88878685);
        b.ask(0x40, 0x2005, 0, 0);
        b.dueAnswer("begin", 0x41, 0x2005, 0, 8);
        b.segment(0x60);
        b.dueFrame("first of 8", 0x58F, 0x00, 0x81, 0x82, 0x83, 0x84, 0x85, 0x86, 0x87);
        b.segment(0x70);
        b.dueFrame("last of 8", 0x58F, 0x1D, 0x88, 0, 0, 0, 0, 0, 0);
        Bench.due("busy()", b.node.busy(), false);
    }

    private static void readAsItIsThen() {
        Bench b = new Bench(15);
        b.ask(0x40, 0x2005, 0, 0);
        b.node.flush();
        b.node.set(0x2005, 0, 0x04030201, 0x08070605);
        b.segment(0x60);
        b.dueFrame("first", 0x58F, 0x00, 1, 2, 3, 4, 5, 6, 7);
        b.node.set(0x2005, 0, 0, 0x99000000);
        b.segment(0x70);
        b.dueFrame("last", 0x58F, 0x1D, 0x99, 0, 0, 0, 0, 0, 0);
    }

    private static void smallOnesAndMaps() {
        Bench b = new Bench(15);
        b.ask(0x20, 0x1800, 2, 0);
        b.node.flush();
        b.segment(0x0D, 241);
        b.dueAbort("TYPE by a segment", 0x1800, 2, 0x06090030);
        b.ask(0x21, 0x1800, 2, 1);
        b.node.flush();
        b.segment(0x0D, 240);
        b.dueFrame("TYPE by a segment", 0x58F, 0x20, 0, 0, 0, 0, 0, 0, 0);
        b.dueBytes(0x1800, 2, 240);
        b.ask(0x20, 0x1A00, 3, 0);
        b.segment(0x08, 0x10, 0, 0x01);
        b.node.flush();
        b.segment(0x1D, 0x20);
        b.dueFrame("a map's name by segments", 0x58F, 0x30, 0, 0, 0, 0, 0, 0, 0);
        b.dueBytes(0x1A00, 3, 0x10, 0, 0x01, 0x20);
        b.ask(0x20, 0x1A00, 4, 0);
        b.node.flush();
        b.segment(0x07, 0x11, 0, 0x01, 0x20);
        b.dueAbort("a wrong name by segments", 0x1A00, 4, 0x06040041);
        b.ask(0x20, 0x1600, 0, 0);
        b.command(1);
        b.node.flush();
        b.segment(0x0D, 0);
        b.dueAbort("a map after PRE has ended", 0x1600, 0, 0x08000022);
    }
}
