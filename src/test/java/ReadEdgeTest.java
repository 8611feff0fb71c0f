/** Boundary cases of promises 2 and 8: READ, segments that are read, and the commands from 4 on. */
final class ReadEdgeTest {
    public static void main(String[] args) {
        Bench.edge("2 and 8", "2, READ: a transfer that goes on is forgotten", ReadEdgeTest::forgotten);
        Bench.edge("2", "0x06020000, 0x06090011 likewise", ReadEdgeTest::noEntry);
        Bench.edge("2", "0x06010001 when it is not readable", ReadEdgeTest::notReadable);
        Bench.edge("2", "A size of at most 4: the answer has byte 0 = 0x43 + 4 * (4 - size), index and sub, "
                + "and the bytes", ReadEdgeTest::atMostFour);
        Bench.edge("2 and 8", "Otherwise a transfer begins: byte 0 = 0x41, index and sub, and the size",
                ReadEdgeTest::moreThanFour);
        Bench.edge("2", "3, A SEGMENT that is read, when such a transfer goes on: 0x05030000 likewise",
                ReadEdgeTest::wrongTurn);
        Bench.edge("2", "The answer has the next 7 bytes of the entry, as it is then", ReadEdgeTest::asItIsThen);
        Bench.edge("2", "at bytes 1 .. 7, or what there is", ReadEdgeTest::whatThereIs);
        Bench.edge("2", "byte 0 = 16 * bit 4 of the request + 2 * (7 less their number)", ReadEdgeTest::firstByte);
        Bench.edge("2 and 8", "1 more when they are the last ones; then the transfer ends", ReadEdgeTest::theLastOnes);
        Bench.edge("2", "Byte 0 has the COMMAND in its highest three bits; INDEX is bytes 1 and 2, SUB byte 3",
                ReadEdgeTest::partsOfARequest);
        Bench.edge("2 and 8", "4: no transfer goes on; nothing is answered", ReadEdgeTest::commandFour);
        Bench.edge("2 and 8", "Any other command, or a segment that is not due: aborted with 0x05040001",
                ReadEdgeTest::otherCommands);
        Bench.edge("2", "of the request, or, while it is about a segment or there is no request, "
                + "those of the transfer, 0 when there is none", ReadEdgeTest::whoseIndex);
        Bench.done();
    }

    private static void forgotten() {
        for (int first : new int[] {0x20, 0x40}) {
            Bench b = new Bench(6);
            b.begin(first, 0x2004);
            b.ask(0x40, 0x2000, 0, 0);
            b.dueAnswer("READ", 0x4F, 0x2000, 0, 0);
            Bench.due("busy() after a READ in one frame", b.node.busy(), false);
            b.begin(first, 0x2004);
            b.ask(0x40, 0x2008, 0, 0);
            b.dueAbort("READ of no entry", 0x2008, 0, 0x06020000);
            b.begin(first, 0x2004);
            b.segment(first == 0x20 ? 0x0E : 0x60);
            b.begin(0x40, 0x2007);
            b.segment(0x60);
            b.dueFrame("the new transfer begins at its start", 0x586, 0, 65, 66, 67, 68, 69, 70, 71);
        }
    }

    private static void noEntry() {
        Bench b = new Bench(6);
        for (int index : new int[] {0, 0x0010, 0x0FFF, 0x1002, 0x1601, 0x17FF, 0x1801, 0x1FFF, 0x2008, 0xFFFF}) {
            for (int sub : new int[] {0, 2, 255}) {
                b.ask(0x40, index, sub, -1);
                b.dueAbort("no index", index, sub, 0x06020000);
            }
        }
        int[][] rows = {{0x1000, 1}, {0x1600, 5}, {0x1800, 0}, {0x1800, 1}, {0x1800, 3}, {0x1A00, 5}, {0x1A00, 255},
            {0x2000, 1}, {0x2006, 1}, {0x2007, 128}};
        for (int[] row : rows) {
            b.ask(0x40, row[0], row[1], -1);
            b.dueAbort("no sub", row[0], row[1], 0x06090011);
        }
    }

    private static void notReadable() {
        Bench b = new Bench(6);
        b.node.set(0x2006, 0, 0x0201, 0);
        b.ask(0x40, 0x2006, 0, 0);
        b.dueAbort("READ 2006", 0x2006, 0, 0x06010001);
        for (int index : new int[] {0x1000, 0x1001, 0x1017, 0x1600, 0x1A00, 0x2000, 0x2001, 0x2002, 0x2003, 0x2004,
            0x2005, 0x2007}) {
            b.ask(0x40, index, 0, 0);
            Bench.due("READ " + Integer.toHexString(index), b.node.out(0, 2) & 255, b.node.size(index, 0) > 4 ? 0x41
                    : 0x43 + 4 * (4 - b.node.size(index, 0)));
            b.node.flush();
        }
    }

    private static void atMostFour() {
        Bench b = new Bench(6);
        for (int index : new int[] {0x2000, 0x2001, 0x2003}) {
            b.node.set(index, 0, 0xF4F3F2F1, -1);
        }
        for (int bits = 0; bits < 32; bits++) {
            b.ask(0x40 + bits, 0x2000, 0, -1);
            b.dueFrame("1 byte", 0x586, 0x4F, 0x00, 0x20, 0, 0xF1, 0, 0, 0);
        }
        b.ask(0x40, 0x2001, 0, -1);
        b.dueFrame("2 bytes", 0x586, 0x4B, 0x01, 0x20, 0, 0xF1, 0xF2, 0, 0);
        b.ask(0x40, 0x2003, 0, -1);
        b.dueFrame("4 bytes", 0x586, 0x43, 0x03, 0x20, 0, 0xF1, 0xF2, 0xF3, 0xF4);
        b.ask(0x40, 0x1800, 2, -1);
        b.dueFrame("TYPE", 0x586, 0x4F, 0x00, 0x18, 2, 255, 0, 0, 0);
        Bench.due("busy()", b.node.busy(), false);
    }

    private static void moreThanFour() {
        int[] index = {0x2005, 0x2004, 0x2007};
        int[] size = {8, 12, 20};
        for (int k = 0; k < 3; k++) {
            Bench b = new Bench(6);
            Bench.due("READ", b.ask(0x5F, index[k], 0, -1), 1);
            b.dueFrame("READ", 0x586, 0x41, index[k] & 255, 0x20, 0, size[k], 0, 0, 0);
            Bench.due("busy()", b.node.busy(), true);
        }
    }

    private static void wrongTurn() {
        Bench b = new Bench(6);
        for (int right = 0; right <= 2; right++) {
            b.begin(0x40, 0x2007);
            for (int k = 0; k < right; k++) {
                Bench.due("segment " + k, b.segment(k % 2 == 0 ? 0x60 : 0x70), 1);
            }
            b.node.flush();
            b.segment(right % 2 == 0 ? 0x70 : 0x60);
            b.dueAbort("the wrong turn after " + right, 0x2007, 0, 0x05030000);
        }
    }

    private static void asItIsThen() {
        Bench b = new Bench(6);
        b.begin(0x40, 0x2005);
        b.node.set(0x2005, 0, 0x04030201, 0x08070605);
        b.segment(0x60);
        b.dueFrame("first", 0x586, 0x00, 1, 2, 3, 4, 5, 6, 7);
        b.node.set(0x2005, 0, -1, 0x99FFFFFF);
        b.segment(0x70);
        b.dueFrame("last", 0x586, 0x1D, 0x99, 0, 0, 0, 0, 0, 0);
        b.dueBytes(0x2005, 0, 255, 255, 255, 255, 255, 255, 255, 0x99);
    }

    private static void whatThereIs() {
        Bench b = new Bench(6);
        b.begin(0x40, 0x2007);
        b.segment(0x60, 99, 99, 99, 99, 99, 99, 99);
        b.dueFrame("7 of 20", 0x586, 0x00, 65, 66, 67, 68, 69, 70, 71);
        b.segment(0x70);
        b.dueFrame("14 of 20", 0x586, 0x10, 72, 73, 74, 75, 76, 77, 78);
        b.segment(0x60);
        b.dueFrame("6 there are", 0x586, 0x03, 79, 80, 81, 82, 83, 84, 0);
        b.begin(0x40, 0x2004);
        b.segment(0x6F);
        b.dueFrame("7 of 12", 0x586, 0x00, 0, 0, 0, 0, 0, 0, 0);
        b.segment(0x7F);
        b.dueFrame("5 there are", 0x586, 0x15, 0, 0, 0, 0, 0, 0, 0);
        b.begin(0x40, 0x2005);
        b.segment(0x60);
        b.node.flush();
        b.segment(0x70);
        b.dueFrame("1 there is", 0x586, 0x1D, 0, 0, 0, 0, 0, 0, 0);
    }

    private static void firstByte() {
        int[] index = {0x2005, 0x2004, 0x2007};
        int[][] due = {{0x00, 0x1D}, {0x00, 0x15}, {0x00, 0x10, 0x03}};
        for (int bits = 0; bits < 16; bits++) {
            for (int k = 0; k < 3; k++) {
                Bench b = new Bench(6);
                b.begin(0x40, index[k]);
                for (int s = 0; s < due[k].length; s++) {
                    b.segment((s % 2 == 0 ? 0x60 : 0x70) + bits);
                    Bench.due("byte 0 of segment " + s, b.node.out(0, 2) & 255, due[k][s]);
                    b.node.flush();
                }
            }
        }
    }

    private static void theLastOnes() {
        int[] index = {0x2005, 0x2004, 0x2007};
        int[] segments = {2, 2, 3};
        for (int k = 0; k < 3; k++) {
            Bench b = new Bench(6);
            b.begin(0x40, index[k]);
            for (int s = 1; s <= segments[k]; s++) {
                b.segment(s % 2 == 1 ? 0x60 : 0x70);
                Bench.due("bit 0 of segment " + s, b.node.out(0, 2) & 1, s == segments[k] ? 1 : 0);
                Bench.due("busy() after segment " + s, b.node.busy(), s < segments[k]);
                b.node.flush();
            }
            b.segment(segments[k] % 2 == 0 ? 0x60 : 0x70);
            b.dueAbort("one behind the last", 0, 0, 0x05040001);
        }
    }

    private static void partsOfARequest() {
        int[] code = {0x05040001, 0x06020000, 0x06020000, 0x05040001, 0, 0x05040001, 0x05040001, 0x05040001};
        for (int first = 0; first < 256; first++) {
            int command = first / 32;
            Bench b = new Bench(6);
            Bench.due("byte 0 is " + first, b.ask(first, 0xFF80, 0x81, -1), command == 4 ? 0 : 1);
            if (command == 0 || command == 3) {
                b.dueAbort("byte 0 is " + first, 0, 0, code[command]);
            } else if (command != 4) {
                b.dueAbort("byte 0 is " + first, 0xFF80, 0x81, code[command]);
            }
        }
        Bench b = new Bench(6);
        b.ask(0x40, 0x0020, 0, 0);
        b.dueAbort("the index with its bytes changed round", 0x0020, 0, 0x06020000);
        b.ask(0x40, 0x1800, 2, 0);
        b.dueAnswer("index and sub", 0x4F, 0x1800, 2, 255);
    }

    private static void commandFour() {
        for (int bits = 0; bits < 32; bits++) {
            Bench b = new Bench(6);
            Bench.due("no transfer", b.ask(0x80 + bits, 0x2000, 0, -1), 0);
            b.begin(0x20, 0x2004);
            Bench.due("a transfer that writes", b.ask(0x80 + bits, 0x2008, 1, -1), 0);
            Bench.due("busy()", b.node.busy(), false);
            b.begin(0x40, 0x2007);
            Bench.due("a transfer that reads", b.ask(0x80 + bits, 0, 0, 0), 0);
            Bench.due("busy()", b.node.busy(), false);
            b.dueSilence("command 4");
            b.segment(0x60);
            b.dueAbort("a segment behind it", 0, 0, 0x05040001);
        }
    }

    private static void otherCommands() {
        for (int first = 0xA0; first < 0x100; first++) {
            Bench b = new Bench(6);
            Bench.due("command " + first, b.ask(first, 0x2000, 7, -1), 1);
            b.dueAbort("command " + first, 0x2000, 7, 0x05040001);
            b.begin(0x40, 0x2007);
            b.ask(first, 0x2000, 7, -1);
            b.dueAbort("command " + first + " while a transfer goes on", 0x2000, 7, 0x05040001);
        }
        Bench b = new Bench(6);
        for (int first = 0x60; first < 0x80; first++) {
            b.segment(first, 0x00, 0x20, 0);
            b.dueAbort("no transfer", 0, 0, 0x05040001);
        }
        b.begin(0x20, 0x2004);
        b.segment(0x60, 0x00, 0x20, 0);
        b.dueAbort("a transfer that writes", 0x2004, 0, 0x05040001);
    }

    private static void whoseIndex() {
        Bench b = new Bench(6);
        b.begin(0x40, 0x2007);
        b.ask(0x40, 0xFEDC, 0xBA, 0);
        b.dueFrame("of the request", 0x586, 128, 0xDC, 0xFE, 0xBA, 0x00, 0x00, 0x02, 0x06);
        b.ask(0x20, 0x1A00, 4, 0);
        b.node.flush();
        b.segment(0x10, 0xDC, 0xFE, 0xBA);
        b.dueFrame("of the transfer", 0x586, 128, 0x00, 0x1A, 4, 0x00, 0x00, 0x03, 0x05);
        b.segment(0x10, 0xDC, 0xFE, 0xBA);
        b.dueFrame("there is none", 0x586, 128, 0, 0, 0, 0x01, 0x00, 0x04, 0x05);
        b.ask(0x20, 0x1A00, 4, 0);
        b.node.flush();
        for (int k = 0; k < 8; k++) {
            b.node.tick();
        }
        b.dueFrame("no request", 0x586, 128, 0x00, 0x1A, 4, 0x00, 0x00, 0x04, 0x05);
    }
}
