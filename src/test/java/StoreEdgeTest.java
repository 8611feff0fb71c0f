/** Boundary cases of promise 2: what may be stored into the maps, TYPE and LIFE. */
final class StoreEdgeTest {
    private static final int[] MAPS = {0x1600, 0x1A00};
    private static final int ONE = Bench.name(0x2000, 1);
    private static final int TWO = Bench.name(0x2001, 2);
    private static final int FOUR = Bench.name(0x2002, 4);
    private static final int EIGHT = Bench.name(0x2005, 8);
    private static final int NO_NAME = 0x06040041;

    public static void main(String[] args) {
        Bench.edge("2", "a MAP's entry: 0x08000022 when the state is not PRE", StoreEdgeTest::notPre);
        Bench.edge("2", "Its sub 0: 0x06090030 when above 4", StoreEdgeTest::countAboveFour);
        Bench.edge("2", "0x06040041 when one of the numbers of subs 1 up to it names no such entry",
                StoreEdgeTest::oneNamesNone);
        Bench.edge("2", "0x06040042 when the content would have more than 8 bytes", StoreEdgeTest::contentTooLong);
        Bench.edge("2", "Its other subs: 0x06010000 when its sub 0 is not 0", StoreEdgeTest::mapInUse);
        Bench.edge("2", "0x06040041 when the number is not 0 and names no such entry", StoreEdgeTest::wrongNames);
        Bench.edge("2", "such a number is index * 65536 + sub * 256 + 8 * size of an entry", StoreEdgeTest::exactNames);
        Bench.edge("2", "an entry that is mappable and, for the taking map writable, for the giving one readable",
                StoreEdgeTest::rights);
        Bench.edge("2", "TYPE: 0x06090030 when it is 241 .. 253", StoreEdgeTest::types);
        Bench.edge("2 and 3", "LIFE: the LIFE count becomes 0", StoreEdgeTest::life);
        Bench.edge("2", "TO STORE bytes into an entry", StoreEdgeTest::nothingOfEarlierBytes);
        Bench.edge("2", "no transfer goes on", StoreEdgeTest::refusedBySegment);
        Bench.done();
    }

    private static void notPre() {
        for (int map : MAPS) {
            Bench b = new Bench(3);
            b.map(map, ONE);
            b.command(1);
            for (int n : new int[] {0, 1, 2, 4, 5, 255}) {
                b.writeFails(map, 0, 1, n, 0x08000022);
            }
            for (int sub = 1; sub <= 4; sub++) {
                b.writeFails(map, sub, 4, 0, 0x08000022);
                b.writeFails(map, sub, 4, ONE, 0x08000022);
                b.writeFails(map, sub, 4, 1, 0x08000022);
            }
            b.dueBytes(map, 0, 1);
            b.dueBytes(map, 1, 8, 0, 0, 0x20);
            b.command(128);
            b.write(map, 0, 1, 0);
            b.command(2);
            Bench.due("STOPPED, it is not even heard", b.ask(0x2F, map, 0, 0), 0);
        }
        Bench b = new Bench(3);
        b.command(1);
        b.write(0x1800, 2, 1, 1);
        b.write(0x1017, 0, 2, 1);
        b.write(0x2000, 0, 1, 1);
    }

    private static void countAboveFour() {
        for (int map : MAPS) {
            Bench b = new Bench(3);
            b.map(map, ONE, ONE, ONE, ONE);
            for (int n : new int[] {5, 6, 127, 128, 132, 255}) {
                b.writeFails(map, 0, 1, n, 0x06090030);
                b.dueBytes(map, 0, 4);
            }
            for (int n = 0; n <= 4; n++) {
                b.write(map, 0, 1, n);
                b.dueBytes(map, 0, n);
            }
        }
    }

    private static void oneNamesNone() {
        for (int map : MAPS) {
            for (int empty = 1; empty <= 4; empty++) {
                Bench b = new Bench(3);
                for (int sub = 1; sub <= 4; sub++) {
                    b.write(map, sub, 4, sub == empty ? 0 : ONE);
                }
                for (int n = 0; n <= 4; n++) {
                    b.write(map, 0, 1, 0);
                    if (n < empty) {
                        b.write(map, 0, 1, n);
                    } else {
                        b.writeFails(map, 0, 1, n, NO_NAME);
                        b.dueBytes(map, 0, 0);
                    }
                }
            }
            Bench b = new Bench(3);
            b.write(map, 1, 4, EIGHT);
            b.write(map, 2, 4, EIGHT);
            b.writeFails(map, 0, 1, 3, NO_NAME);
            b.writeFails(map, 0, 1, 2, 0x06040042);
            b.writeFails(map, 0, 1, 5, 0x06090030);
        }
    }

    private static void contentTooLong() {
        int[][] fit = {{EIGHT}, {FOUR, FOUR}, {FOUR, TWO, TWO}, {FOUR, TWO, ONE, ONE}, {TWO, TWO, TWO, TWO}};
        int[][] tooLong = {{EIGHT, ONE}, {FOUR, FOUR, ONE}, {FOUR, TWO, TWO, ONE}, {EIGHT, EIGHT, EIGHT, EIGHT},
            {ONE, EIGHT}, {FOUR, FOUR, FOUR, FOUR}};
        for (int map : MAPS) {
            for (int[] names : fit) {
                Bench b = new Bench(3);
                b.map(map, names);
                b.dueBytes(map, 0, names.length);
            }
            for (int[] names : tooLong) {
                Bench b = new Bench(3);
                for (int k = 0; k < names.length; k++) {
                    b.write(map, k + 1, 4, names[k]);
                }
                b.writeFails(map, 0, 1, names.length, 0x06040042);
                b.dueBytes(map, 0, 0);
                b.write(map, 0, 1, 1);
                b.writeFails(map, 0, 1, names.length, 0x06040042);
                b.dueBytes(map, 0, 1);
            }
        }
    }

    private static void mapInUse() {
        for (int map : MAPS) {
            Bench b = new Bench(3);
            b.map(map, ONE);
            for (int sub = 1; sub <= 4; sub++) {
                b.writeFails(map, sub, 4, TWO, 0x06010000);
                b.writeFails(map, sub, 4, 0, 0x06010000);
                b.writeFails(map, sub, 4, 1, 0x06010000);
            }
            b.dueBytes(map, 1, 8, 0, 0, 0x20);
            b.dueBytes(map, 2, 0, 0, 0, 0);
            b.write(0x1600 + 0x1A00 - map, 1, 4, ONE);
            b.write(map, 0, 1, 0);
            b.write(map, 1, 4, TWO);
        }
    }

    private static void wrongNames() {
        for (int map : MAPS) {
            for (int sub = 1; sub <= 4; sub++) {
                Bench b = new Bench(3);
                b.write(map, sub, 4, ONE);
                for (int name : new int[] {1, 8, 0x2000, 0x20000000, -1, Integer.MIN_VALUE, Integer.MAX_VALUE,
                    Bench.name(0x2008, 1), Bench.name(0x1FFF, 1)}) {
                    b.writeFails(map, sub, 4, name, NO_NAME);
                    b.dueBytes(map, sub, 8, 0, 0, 0x20);
                }
                b.write(map, sub, 4, 0);
                b.dueBytes(map, sub, 0, 0, 0, 0);
            }
        }
    }

    private static void exactNames() {
        int[] index = {0x2000, 0x2001, 0x2002, 0x2005};
        for (int map : MAPS) {
            Bench b = new Bench(3);
            for (int i : index) {
                int size = b.node.size(i, 0);
                for (int wrong = 0; wrong <= 9; wrong++) {
                    if (wrong != size) {
                        b.writeFails(map, 1, 4, Bench.name(i, wrong), NO_NAME);
                    }
                }
                b.writeFails(map, 1, 4, Bench.name(i, size) + 1, NO_NAME);
                b.writeFails(map, 1, 4, Bench.name(i, size) - 1, NO_NAME);
                b.writeFails(map, 1, 4, Bench.name(i, size) + 256, NO_NAME);
                b.write(map, 1, 4, Bench.name(i, size));
                b.dueBytes(map, 1, 8 * size, 0, i & 255, i >> 8);
            }
        }
    }

    private static void rights() {
        int[] mappable = {0x1001, 0x2000, 0x2001, 0x2002, 0x2003, 0x2005, 0x2006};
        boolean[] writable = {false, true, true, true, false, true, true};
        boolean[] readable = {true, true, true, true, true, true, false};
        Bench b = new Bench(3);
        for (int k = 0; k < mappable.length; k++) {
            int name = Bench.name(mappable[k], b.node.size(mappable[k], 0));
            dueName(b, 0x1600, name, writable[k]);
            dueName(b, 0x1A00, name, readable[k]);
        }
        for (int index : new int[] {0x1000, 0x1017, 0x1600, 0x1A00, 0x2004, 0x2007}) {
            int name = Bench.name(index, b.node.size(index, 0));
            dueName(b, 0x1600, name, false);
            dueName(b, 0x1A00, name, false);
        }
        dueName(b, 0x1600, Bench.name(0x1800, 1) + 512, false);
        dueName(b, 0x1A00, Bench.name(0x1800, 1) + 512, false);
        dueName(b, 0x1A00, Bench.name(0x1600, 4) + 256, false);
    }

    private static void dueName(Bench b, int map, int name, boolean fits) {
        if (fits) {
            b.write(map, 2, 4, name);
        } else {
            b.writeFails(map, 2, 4, name, NO_NAME);
        }
    }

    private static void types() {
        for (int type : new int[] {0, 1, 239, 240, 254, 255}) {
            Bench b = new Bench(3);
            b.write(0x1800, 2, 1, 100);
            b.write(0x1800, 2, 1, type);
            b.dueBytes(0x1800, 2, type);
        }
        for (int type = 241; type <= 253; type++) {
            Bench b = new Bench(3);
            b.write(0x1800, 2, 1, 100);
            b.writeFails(0x1800, 2, 1, type, 0x06090030);
            b.dueBytes(0x1800, 2, 100);
            b.command(1);
            b.writeFails(0x1800, 2, 1, type, 0x06090030);
            b.write(0x2000, 0, 1, type);
            b.write(0x1017, 0, 2, type);
        }
    }

    private static void life() {
        Bench b = new Bench(3);
        b.write(0x1017, 0, 2, 3);
        b.node.tick();
        b.node.tick();
        b.write(0x1017, 0, 2, 2);
        Bench.due("tick() 1 after LIFE at once", b.node.tick(), 0);
        Bench.due("tick() 2 after LIFE at once", b.node.tick(), 1);
        b.node.tick();
        b.begin(0x20, 0x1017);
        b.segment(0x0B, 2, 0);
        Bench.due("tick() 1 after LIFE by a segment", b.node.tick(), 0);
        Bench.due("tick() 2 after LIFE by a segment", b.node.tick(), 1);
        b.node.tick();
        b.node.flush();
        b.write(0x2000, 0, 1, 2);
        b.write(0x1800, 2, 1, 2);
        Bench.due("tick() 2, as other entries were stored", b.node.tick(), 1);
        b.node.tick();
        b.node.flush();
        b.writeFails(0x1017, 0, 1, 2, 0x06070013);
        Bench.due("tick() 2, as LIFE was not stored", b.node.tick(), 1);
    }

    private static void nothingOfEarlierBytes() {
        Bench b = new Bench(3);
        b.write(0x1600, 1, 4, ONE);
        b.write(0x2002, 0, 4, -1);
        b.writeFails(0x1800, 2, 1, 241, 0x06090030);
        b.write(0x2002, 0, 4, -1);
        b.write(0x1600, 0, 1, 1);
        b.write(0x1600, 0, 1, 0);
        b.begin(0x20, 0x2004);
        b.segment(0x00, 255, 255, 255, 255, 255, 255, 255);
        b.begin(0x20, 0x1600);
        b.segment(0x0D, 1);
        b.dueFrame("n by a segment", 0x583, 0x20, 0, 0, 0, 0, 0, 0, 0);
        b.dueBytes(0x1600, 0, 1);
        b.write(0x2002, 0, 4, -1);
        b.write(0x2001, 0, 2, 0);
        b.dueBytes(0x2001, 0, 0, 0);
    }

    private static void refusedBySegment() {
        Bench b = new Bench(3);
        b.ask(0x20, 0x1800, 2, 0);
        b.node.flush();
        Bench.due("TYPE 253", b.segment(0x0D, 253), 1);
        b.dueAbort("TYPE 253", 0x1800, 2, 0x06090030);
        b.dueBytes(0x1800, 2, 255);
        b.ask(0x20, 0x1A00, 0, 0);
        b.node.flush();
        b.segment(0x0D, 5);
        b.dueAbort("n = 5", 0x1A00, 0, 0x06090030);
        b.ask(0x20, 0x1A00, 2, 0);
        b.node.flush();
        b.segment(0x07, 1, 0, 0, 0);
        b.dueAbort("a wrong name", 0x1A00, 2, NO_NAME);
        b.ask(0x20, 0x1600, 4, 0);
        b.command(1);
        b.node.flush();
        b.segment(0x07, 0, 0, 0, 0);
        b.dueAbort("RUNNING since it began", 0x1600, 4, 0x08000022);
    }
}
