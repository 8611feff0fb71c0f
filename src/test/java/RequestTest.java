/** Promise 2: requests that are answered in one frame (promises 5 and 8 with them). */
final class RequestTest {
    public static void main(String[] args) {
        reads();
        refusedReads();
        writesAtOnce();
        refusedWrites();
        lengthsAtOnce();
        lengthsOfTransfers();
        unknownCommands();
        storedTypes();
        Bench.done();
    }

    private static void reads() {
        for (int low = 0; low < 32; low++) {
            Bench b = new Bench(6);
            b.node.set(0x2000, 0, 0xA1, 0);
            b.node.set(0x2001, 0, 0xB2B1, 0);
            b.node.set(0x2003, 0, 0xD4D3D2D1, 0);
            b.ask(0x40 + low, 0x2000, 0, -1);
            b.dueAnswer("read 2000", 0x4F, 0x2000, 0, 0xA1);
            b.ask(0x40 + low, 0x2001, 0, -1);
            b.dueAnswer("read 2001", 0x4B, 0x2001, 0, 0xB2B1);
            b.ask(0x40 + low, 0x2003, 0, -1);
            b.dueAnswer("read 2003", 0x43, 0x2003, 0, 0xD4D3D2D1);
        }
        Bench b = new Bench(6);
        b.ask(0x40, 0x1800, 2, 0);
        b.dueAnswer("read TYPE", 0x4F, 0x1800, 2, 255);
        b.ask(0x40, 0x1A00, 4, 0);
        b.dueAnswer("read 1A00,4", 0x43, 0x1A00, 4, 0);
        Bench.due("busy() after reads at once", b.node.busy(), false);
        b.ask(0x40, 0x2005, 0, 0);
        b.dueAnswer("read 2005", 0x41, 0x2005, 0, 8);
        Bench.due("busy() after a long read", b.node.busy(), true);
        b.ask(0x40, 0x2000, 0, 0);
        b.dueAnswer("read 2000 instead", 0x4F, 0x2000, 0, 0);
        Bench.due("the transfer is forgotten", b.node.busy(), false);
    }

    private static void refusedReads() {
        Bench b = new Bench(6);
        int[][] rows = {{0x2006, 0, 0x06010001}, {0x2008, 0, 0x06020000}, {0, 0, 0x06020000},
            {0x1002, 0, 0x06020000}, {0xFFFF, 255, 0x06020000}, {0x1800, 0, 0x06090011},
            {0x1800, 1, 0x06090011}, {0x1600, 5, 0x06090011}, {0x2000, 255, 0x06090011},
            {0x2006, 1, 0x06090011}, {0x1000, 1, 0x06090011}};
        for (int[] row : rows) {
            b.ask(0x40, 0x2007, 0, 0);
            b.node.flush();
            b.ask(0x40, row[0], row[1], 0x12345678);
            b.dueAbort("read " + Integer.toHexString(row[0]), row[0], row[1], row[2]);
        }
    }

    private static void writesAtOnce() {
        Bench b = new Bench(6);
        b.write(0x2000, 0, 1, 0x81);
        b.dueBytes(0x2000, 0, 0x81);
        b.write(0x2001, 0, 2, 0x8281);
        b.dueBytes(0x2001, 0, 0x81, 0x82);
        b.write(0x2002, 0, 4, 0x84838281);
        b.dueBytes(0x2002, 0, 0x81, 0x82, 0x83, 0x84);
        b.write(0x2006, 0, 2, 0x9291);
        b.dueBytes(0x2006, 0, 0x91, 0x92);
        b.ask(0x2F, 0x2000, 0, 0xFFFFFF05);
        b.dueAnswer("bytes behind the told ones", 0x60, 0x2000, 0, 0);
        b.dueBytes(0x2000, 0, 5);
        b.ask(0x3F, 0x2000, 0, 6);
        b.dueAnswer("bit 4 has no meaning", 0x60, 0x2000, 0, 0);
        b.ask(0x22, 0x2000, 0, 0xFFFFFF07);
        b.dueAnswer("untold length 1", 0x60, 0x2000, 0, 0);
        b.dueBytes(0x2000, 0, 7);
        b.ask(0x2E, 0x2001, 0, 0xFFFF0908);
        b.dueAnswer("untold length 2", 0x60, 0x2001, 0, 0);
        b.dueBytes(0x2001, 0, 8, 9);
        b.ask(0x22, 0x2002, 0, 0x0D0C0B0A);
        b.dueAnswer("untold length 4", 0x60, 0x2002, 0, 0);
        b.dueBytes(0x2002, 0, 10, 11, 12, 13);
        Bench.due("busy() after writes at once", b.node.busy(), false);
        b.ask(0x20, 0x2004, 0, 0);
        b.node.flush();
        b.write(0x2000, 0, 1, 1);
        Bench.due("the transfer is forgotten", b.node.busy(), false);
        b.command(1);
        b.write(0x2000, 0, 1, 2);
        b.dueBytes(0x2000, 0, 2);
    }

    private static void refusedWrites() {
        int[][] rows = {{0x1000, 0, 0x06010002}, {0x1001, 0, 0x06010002}, {0x2003, 0, 0x06010002},
            {0x2007, 0, 0x06010002}, {0x2008, 0, 0x06020000}, {0x1601, 1, 0x06020000},
            {0x1800, 0, 0x06090011}, {0x1A00, 5, 0x06090011}, {0x2000, 1, 0x06090011}};
        for (int[] row : rows) {
            for (int first = 0x20; first < 0x40; first++) {
                Bench b = new Bench(6);
                b.ask(0x20, 0x2004, 0, 0);
                b.node.flush();
                b.ask(first, row[0], row[1], 4);
                b.dueAbort("write " + Integer.toHexString(row[0]), row[0], row[1], row[2]);
                NewObjectTest.entriesAreAsAtFirst(b.node);
            }
        }
    }

    private static void lengthsAtOnce() {
        Bench b = new Bench(6);
        int[] index = {0x2000, 0x2001, 0x2002, 0x2004, 0x2005, 0x1017};
        int[] size = {1, 2, 4, 12, 8, 2};
        for (int k = 0; k < index.length; k++) {
            for (int told = 1; told <= 4; told++) {
                b.ask(0x23 + 4 * (4 - told), index[k], 0, 0x01010101);
                String what = "write " + told + " into " + size[k];
                if (told == size[k]) {
                    b.dueAnswer(what, 0x60, index[k], 0, 0);
                } else {
                    b.dueAbort(what, index[k], 0, told > size[k] ? 0x06070012 : 0x06070013);
                }
            }
            if (size[k] > 4) {
                b.ask(0x22, index[k], 0, 0);
                b.dueAbort("write untold into " + size[k], index[k], 0, 0x06070013);
            }
        }
    }

    private static void lengthsOfTransfers() {
        Bench b = new Bench(6);
        int[] index = {0x2000, 0x2001, 0x2002, 0x2004, 0x2005};
        int[] size = {1, 2, 4, 12, 8};
        for (int k = 0; k < index.length; k++) {
            int[] told = {Integer.MIN_VALUE, -1, 0, size[k] - 1, size[k], size[k] + 1, 256 + size[k],
                Integer.MAX_VALUE};
            for (int length : told) {
                b.ask(0x21, index[k], 0, length);
                String what = "a transfer of " + length + " into " + size[k];
                if (length == size[k]) {
                    b.dueAnswer(what, 0x60, index[k], 0, 0);
                    Bench.due(what + ": busy()", b.node.busy(), true);
                } else {
                    b.dueAbort(what, index[k], 0, length > size[k] ? 0x06070012 : 0x06070013);
                }
            }
            b.ask(0x20, index[k], 0, 77);
            b.dueAnswer("a transfer untold", 0x60, index[k], 0, 0);
            Bench.due("a transfer untold: busy()", b.node.busy(), true);
            b.ask(0x2C, index[k], 0, -1);
            b.dueAnswer("bits 2 and 3 have no meaning", 0x60, index[k], 0, 0);
        }
    }

    private static void unknownCommands() {
        for (int first = 0xA0; first < 0x100; first++) {
            Bench b = new Bench(6);
            b.ask(0x40, 0x2007, 0, 0);
            b.node.flush();
            b.ask(first, 0x1234, 0x56, -1);
            b.dueAbort("command " + first, 0x1234, 0x56, 0x05040001);
        }
        for (int first = 0x80; first < 0xA0; first++) {
            Bench b = new Bench(6);
            b.ask(0x40, 0x2007, 0, 0);
            b.node.flush();
            Bench.due("command 4 answers", b.ask(first, 0x2000, 0, -1), 0);
            b.dueSilence("command 4");
            Bench.due("command 4: busy()", b.node.busy(), false);
        }
    }

    private static void storedTypes() {
        for (int state : new int[] {128, 1}) {
            for (int type = 0; type < 256; type++) {
                Bench b = new Bench(6);
                b.command(state);
                if (type > 240 && type < 254) {
                    b.writeFails(0x1800, 2, 1, type, 0x06090030);
                    b.dueBytes(0x1800, 2, 255);
                } else {
                    b.write(0x1800, 2, 1, type);
                    b.dueBytes(0x1800, 2, type);
                }
            }
        }
    }
}
