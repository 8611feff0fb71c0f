/** Promise 2 and promise 4: when the content of the giving map is given. */
final class GiveTest {
    public static void main(String[] args) {
        onChange(254);
        onChange(255);
        onSyncWhenNew();
        onEachSync();
        syncCountIsZeroed();
        countedAsGiven();
        typeChanges();
        withoutMap();
        allOfTheContent();
        Bench.done();
    }

    private static Bench running(int type, int... names) {
        return Bench.giving(4, type, names);
    }

    private static void onChange(int type) {
        Bench b = running(type, Bench.name(0x2000, 1));
        b.dueSilence("RUNNING gives nothing by itself");
        Bench.due("set", b.node.set(0x2000, 0, 5, 0), 1);
        b.dueFrame("set", 0x184, 5);
        Bench.due("set the same", b.node.set(0x2000, 0, 5, 0), 0);
        Bench.due("set another entry", b.node.set(0x2001, 0, 5, 0), 0);
        Bench.due("SYNC", b.sync(), 0);
        Bench.due("write", b.ask(0x2F, 0x2000, 0, 6), 2);
        Bench.due("the answer comes first", b.node.out(0, 0), 0x584);
        b.dueNext("then what is given", 1, 0x184, 6);
        b.node.flush();
        b.ask(0x20, 0x2000, 0, 0);
        Bench.due("write by a segment", b.segment(0x0D, 7), 2);
        b.dueNext("then what is given", 2, 0x184, 7);
        b.command(128);
        Bench.due("set in PRE", b.node.set(0x2000, 0, 8, 0), 0);
        b.command(2);
        Bench.due("set in STOPPED", b.node.set(0x2000, 0, 9, 0), 0);
        Bench.due("back to RUNNING", b.command(1), 0);
        Bench.due("set back", b.node.set(0x2000, 0, 7, 0), 1);
    }

    private static void onSyncWhenNew() {
        Bench b = running(0, Bench.name(0x2001, 2));
        Bench.due("SYNC, nothing new", b.sync(), 0);
        Bench.due("set", b.node.set(0x2001, 0, 0x0201, 0), 0);
        Bench.due("SYNC with bytes", b.come(0x80, 1, 2, 3, 4, 5, 6, 7, 8), 1);
        b.dueFrame("SYNC", 0x184, 1, 2);
        Bench.due("SYNC again", b.sync(), 0);
        b.node.set(0x2001, 0, 9, 0);
        b.node.set(0x2001, 0, 0x0201, 0);
        Bench.due("SYNC after there and back", b.sync(), 0);
        b.node.set(0x2001, 0, 9, 0);
        b.command(128);
        Bench.due("SYNC in PRE", b.sync(), 0);
        b.command(2);
        Bench.due("SYNC in STOPPED", b.sync(), 0);
    }

    private static void onEachSync() {
        for (int type : new int[] {1, 2, 3, 240}) {
            Bench b = running(type, Bench.name(0x2000, 1));
            int rounds = type < 100 ? 2 : 1;
            for (int round = 0; round < rounds; round++) {
                for (int k = 1; k < type; k++) {
                    Bench.due("SYNC " + k + " of " + type, b.sync(), 0);
                }
                Bench.due("set", b.node.set(0x2000, 0, round, 0), 0);
                Bench.due("SYNC " + type + " of " + type, b.sync(), 1);
                b.dueFrame("SYNC", 0x184, round);
            }
        }
    }

    private static void syncCountIsZeroed() {
        Bench b = running(3, Bench.name(0x2000, 1));
        b.sync();
        b.sync();
        b.write(0x1800, 2, 1, 3);
        Bench.due("SYNC after TYPE was stored", b.sync(), 0);
        b.sync();
        b.writeFails(0x1800, 2, 1, 250, 0x06090030);
        Bench.due("SYNC after TYPE was refused", b.sync(), 1);
        b.sync();
        b.sync();
        b.command(1);
        Bench.due("SYNC after RUNNING, as it was", b.sync(), 1);
        b.sync();
        b.sync();
        b.command(128);
        b.sync();
        b.command(1);
        Bench.due("SYNC after RUNNING anew", b.sync(), 0);
        b.sync();
        Bench.due("third SYNC after RUNNING anew", b.sync(), 1);
        b.sync();
        b.node.flush();
        b.write(0x2000, 0, 1, 1);
        b.write(0x1017, 0, 2, 9);
        b.sync();
        Bench.due("SYNC, other entries were stored", b.sync(), 1);
    }

    private static void countedAsGiven() {
        Bench b = running(0, Bench.name(0x2000, 1));
        b.command(128);
        b.node.set(0x2000, 0, 1, 0);
        b.command(1);
        Bench.due("SYNC, counted as given", b.sync(), 0);
        b.node.set(0x2000, 0, 2, 0);
        b.command(1);
        Bench.due("SYNC, RUNNING already", b.sync(), 1);
        b.node.set(0x2000, 0, 3, 0);
        b.command(2);
        b.command(1);
        Bench.due("SYNC, counted again", b.sync(), 0);
        b.node.set(0x2000, 0, 2, 0);
        Bench.due("SYNC, what was given before that is new", b.sync(), 1);
    }

    private static void typeChanges() {
        Bench b = running(0, Bench.name(0x2000, 1));
        b.node.set(0x2000, 0, 1, 0);
        b.dueSilence("TYPE 0");
        Bench.due("TYPE becomes 255", b.ask(0x2F, 0x1800, 2, 255), 2);
        b.dueNext("what is new is given then", 1, 0x184, 1);
        b.node.flush();
        b.write(0x1800, 2, 1, 1);
        b.node.set(0x2000, 0, 2, 0);
        Bench.due("SYNC with TYPE 1", b.sync(), 1);
        Bench.due("SYNC with TYPE 1, nothing new", b.sync(), 1);
        b.node.flush();
        b.write(0x1800, 2, 1, 254);
        Bench.due("given by SYNC is given", b.node.set(0x2000, 0, 2, 0), 0);
        b.write(0x1800, 2, 1, 0);
        Bench.due("SYNC with TYPE 0, nothing new", b.sync(), 0);
    }

    private static void withoutMap() {
        for (int type : new int[] {0, 1, 255}) {
            Bench b = new Bench(4);
            b.write(0x1A00, 1, 4, Bench.name(0x2000, 1));
            b.write(0x1800, 2, 1, type);
            b.command(1);
            Bench.due("set without a map", b.node.set(0x2000, 0, 1, 0), 0);
            Bench.due("SYNC without a map", b.sync(), 0);
        }
    }

    private static void allOfTheContent() {
        Bench b = running(255, Bench.name(0x2003, 4), Bench.name(0x1001, 1), Bench.name(0x2001, 2),
                Bench.name(0x2000, 1));
        b.node.set(0x2003, 0, 0x84838281, 0);
        b.dueFrame("4 entries", 0x184, 0x81, 0x82, 0x83, 0x84, 0, 0, 0, 0);
        b.node.set(0x2000, 0, 0x88, 0);
        b.dueFrame("4 entries", 0x184, 0x81, 0x82, 0x83, 0x84, 0, 0, 0, 0x88);
        b.node.set(0x2001, 0, 0x8786, 0);
        b.dueFrame("4 entries", 0x184, 0x81, 0x82, 0x83, 0x84, 0, 0x86, 0x87, 0x88);
        b = running(255, Bench.name(0x2000, 1), Bench.name(0x2001, 2), Bench.name(0x2000, 1));
        b.node.set(0x2000, 0, 0xFF, 0);
        b.dueFrame("an entry twice", 0x184, 0xFF, 0, 0, 0xFF);
        b = running(255, Bench.name(0x2005, 8));
        b.node.set(0x2005, 0, 0, 0x80000000);
        b.dueFrame("an entry of 8", 0x184, 0, 0, 0, 0, 0, 0, 0, 0x80);
    }
}
