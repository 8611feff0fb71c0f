/** Promise 2: what may be stored into the maps, and what the taking map does. */
final class MapTest {
    private static final int NO_NAME = 0x06040041;

    public static void main(String[] args) {
        names(0x1600, 0x2000, 0x2001, 0x2002, 0x2005, 0x2006);
        names(0x1A00, 0x1001, 0x2000, 0x2001, 0x2002, 0x2003, 0x2005);
        counts(0x1600);
        counts(0x1A00);
        statesForMaps();
        taken();
        takenTwice();
        takenShort();
        notTaken();
        Bench.done();
    }

    private static void names(int map, int... good) {
        int[] index = {0x1000, 0x1001, 0x1017, 0x1600, 0x1800, 0x1A00, 0x2000, 0x2001, 0x2002, 0x2003,
            0x2004, 0x2005, 0x2006, 0x2007, 0x2008};
        for (int sub = 1; sub <= 4; sub++) {
            for (int i : index) {
                Bench b = new Bench(3);
                int name = Bench.name(i, Math.max(1, b.node.size(i, 0)));
                boolean fits = false;
                for (int g : good) {
                    fits |= g == i;
                }
                if (fits) {
                    b.write(map, sub, 4, name);
                    b.dueBytes(map, sub, name & 255, 0, name >> 16 & 255, name >> 24);
                } else {
                    b.writeFails(map, sub, 4, name, NO_NAME);
                }
                b.writeFails(map, sub, 4, name + 8, NO_NAME);
                b.writeFails(map, sub, 4, name - 8, NO_NAME);
                b.writeFails(map, sub, 4, name + 1, NO_NAME);
                b.writeFails(map, sub, 4, name + 256, NO_NAME);
                b.writeFails(map, sub, 4, name | 0x80000000, NO_NAME);
            }
            Bench b = new Bench(3);
            b.write(map, sub, 4, Bench.name(0x2000, 1));
            b.write(map, sub, 4, 0);
            b.dueBytes(map, sub, 0, 0, 0, 0);
            b.writeFails(map, sub, 4, 1, NO_NAME);
            b.writeFails(map, sub, 4, Bench.name(0x1800, 1) + 512, NO_NAME);
        }
    }

    private static void counts(int map) {
        Bench b = new Bench(3);
        b.write(map, 0, 1, 0);
        for (int n = 1; n <= 4; n++) {
            b.writeFails(map, 0, 1, n, NO_NAME);
        }
        b.writeFails(map, 0, 1, 5, 0x06090030);
        b.writeFails(map, 0, 1, 255, 0x06090030);
        b.write(map, 1, 4, Bench.name(0x2002, 4));
        b.write(map, 2, 4, Bench.name(0x2001, 2));
        b.write(map, 4, 4, Bench.name(0x2000, 1));
        b.writeFails(map, 0, 1, 3, NO_NAME);
        b.writeFails(map, 0, 1, 4, NO_NAME);
        b.write(map, 0, 1, 2);
        b.dueBytes(map, 0, 2);
        for (int sub = 1; sub <= 4; sub++) {
            b.writeFails(map, sub, 4, 0, 0x06010000);
            b.writeFails(map, sub, 4, 1, 0x06010000);
        }
        b.writeFails(map, 0, 1, 3, NO_NAME);
        b.writeFails(map, 0, 1, 5, 0x06090030);
        b.dueBytes(map, 0, 2);
        b.write(map, 0, 1, 1);
        b.write(map, 0, 1, 0);
        b.write(map, 3, 4, Bench.name(0x2000, 1));
        b.write(map, 0, 1, 4);
        b.write(map, 0, 1, 0);
        b.write(map, 3, 4, Bench.name(0x2001, 2));
        b.writeFails(map, 0, 1, 4, 0x06040042);
        b.write(map, 0, 1, 3);
        b.write(map, 0, 1, 0);
        b.write(map, 1, 4, Bench.name(0x2005, 8));
        b.write(map, 0, 1, 1);
        b.writeFails(map, 0, 1, 2, 0x06040042);
        b.write(map, 0, 1, 0);
        b.write(map, 4, 4, 0);
        b.writeFails(map, 0, 1, 4, NO_NAME);
    }

    private static void statesForMaps() {
        Bench b = new Bench(3);
        b.command(1);
        for (int map : new int[] {0x1600, 0x1A00}) {
            b.writeFails(map, 0, 1, 0, 0x08000022);
            b.writeFails(map, 0, 1, 9, 0x08000022);
            for (int sub = 1; sub <= 4; sub++) {
                b.writeFails(map, sub, 4, 0, 0x08000022);
                b.writeFails(map, sub, 4, 1, 0x08000022);
            }
            b.writeFails(map, 0, 2, 0, 0x06070012);
        }
        b.command(128);
        b.write(0x1600, 0, 1, 0);
    }

    private static void taken() {
        Bench b = new Bench(3);
        b.map(0x1600, Bench.name(0x2006, 2), Bench.name(0x2000, 1), Bench.name(0x2002, 4),
                Bench.name(0x2000, 1));
        b.command(1);
        Bench.due("take", b.take(0x81, 2, 3, 4, 5, 6, 0x87, 0x88), 0);
        b.dueBytes(0x2006, 0, 0x81, 2);
        b.dueBytes(0x2002, 0, 4, 5, 6, 0x87);
        b.dueBytes(0x2000, 0, 0x88);
        b.dueBytes(0x1001, 0, 0);
        b.dueSilence("take");

        b = new Bench(3);
        b.map(0x1600, Bench.name(0x2005, 8));
        b.command(1);
        b.take(0x81, 0x82, 0x83, 0x84, 0x85, 0x86, 0x87, 0x88);
        b.dueBytes(0x2005, 0, 0x81, 0x82, 0x83, 0x84, 0x85, 0x86, 0x87, 0x88);
        b.take(1, 2, 3, 4, 5, 6, 7);
        b.dueBytes(0x2005, 0, 0x81, 0x82, 0x83, 0x84, 0x85, 0x86, 0x87, 0x88);
        b.dueBytes(0x1001, 0, 16);
    }

    private static void takenTwice() {
        Bench b = new Bench(3);
        b.map(0x1600, Bench.name(0x2001, 2));
        b.map(0x1A00, Bench.name(0x2001, 2));
        b.command(1);
        Bench.due("take and give", b.take(1, 2), 1);
        b.dueFrame("take and give", 0x183, 1, 2);
        Bench.due("take the same", b.take(1, 2, 3, 4), 0);
        Bench.due("take more than is needed", b.take(5, 6, 7, 8, 9, 10, 11, 12), 1);
        b.dueFrame("take more than is needed", 0x183, 5, 6);
    }

    private static void takenShort() {
        Bench b = new Bench(3);
        b.map(0x1600, Bench.name(0x2001, 2), Bench.name(0x2000, 1));
        b.map(0x1A00, Bench.name(0x1001, 1));
        b.command(1);
        Bench.due("too short", b.take(9, 9), 1);
        b.dueFrame("ERROR is given", 0x183, 16);
        b.dueBytes(0x1001, 0, 16);
        b.dueBytes(0x2001, 0, 0, 0);
        Bench.due("too short again", b.take(), 0);
        b.dueBytes(0x1001, 0, 16);
        Bench.due("long enough", b.take(1, 2, 3), 0);
        b.dueBytes(0x1001, 0, 16);
        b.dueBytes(0x2001, 0, 1, 2);
        b.dueBytes(0x2000, 0, 3);
    }

    private static void notTaken() {
        Bench b = new Bench(3);
        b.map(0x1600, Bench.name(0x2000, 1));
        b.take(1);
        b.take();
        b.command(2);
        b.take(1);
        b.take();
        b.command(1);
        b.come(0x204, 1);
        b.come(0x200, 1);
        b.dueBytes(0x2000, 0, 0);
        b.dueBytes(0x1001, 0, 0);
        b.take(1);
        b.dueBytes(0x2000, 0, 1);
        b.command(128);
        b.write(0x1600, 0, 1, 0);
        b.command(1);
        b.take(2);
        b.take();
        b.dueBytes(0x2000, 0, 1);
        b.dueBytes(0x1001, 0, 0);
    }
}
