/** Boundary cases of promises 2 and 4: SYNC, the giving map, and what is given at the end of a call. */
final class GiveEdgeTest {
    private static final int ONE = Bench.name(0x2000, 1);
    private static final int TWO = Bench.name(0x2001, 2);
    private static final int FOUR = Bench.name(0x2002, 4);
    private static final int EIGHT = Bench.name(0x2005, 8);

    public static void main(String[] args) {
        Bench.edge("2", "ID 0x80 (SYNC), RUNNING", GiveEdgeTest::syncOnlyWhenRunning);
        Bench.edge("2", "ID 0x80 (SYNC)", GiveEdgeTest::syncOfAnyLength);
        Bench.edge("2", "when n of the giving map is not 0", GiveEdgeTest::emptyMap);
        Bench.edge("2", "the entries that its subs 1 .. n name", GiveEdgeTest::onlyFirstSubs);
        Bench.edge("2", "with TYPE 0 its content is given if it is not that which was given last",
                GiveEdgeTest::typeZero);
        Bench.edge("2", "with TYPE 1 .. 240 the SYNC count grows by 1", GiveEdgeTest::smallestAndLargestType);
        Bench.edge("2", "when it is TYPE or more it becomes 0 and the content is given", GiveEdgeTest::roundAfterRound);
        Bench.edge("2", "with TYPE 254 or 255", GiveEdgeTest::syncWithEventTypes);
        Bench.edge("2", "TO GIVE: a frame with the ID 0x180 + N and the content is sent", GiveEdgeTest::eachLength);
        Bench.edge("2", "one behind the other, at most 8 in all", GiveEdgeTest::fullContent);
        Bench.edge("2 and 4", "At the end of each call by which a frame came or an entry was set",
                GiveEdgeTest::eachKindOfCall);
        Bench.edge("4", "RUNNING, with TYPE 254 or 255", GiveEdgeTest::onlyEventTypes);
        Bench.edge("4", "RUNNING", GiveEdgeTest::onlyWhenRunning);
        Bench.edge("4", "n of the giving map not 0", GiveEdgeTest::setWithEmptyMap);
        Bench.edge("2 and 4", "if it is not that which was given (or counted as given) last", GiveEdgeTest::notNew);
        Bench.edge("2", "TYPE: 0x06090030 when it is 241 .. 253; the SYNC count becomes 0", GiveEdgeTest::storedType);
        Bench.edge("2 and 4", "(later ones are sent, and counted, all the same)", GiveEdgeTest::givenWithoutRoom);
        Bench.done();
    }

    private static void syncOnlyWhenRunning() {
        for (int type : new int[] {0, 1}) {
            for (int by : new int[] {128, 2}) {
                Bench b = Bench.giving(4, type, ONE);
                b.node.set(0x2000, 0, 1, 0);
                b.command(by);
                Bench.due("SYNC with TYPE " + type + " after command " + by, b.sync(), 0);
                b.dueSilence("SYNC when not RUNNING");
            }
        }
    }

    private static void syncOfAnyLength() {
        for (int length = 0; length <= 8; length++) {
            Bench b = Bench.giving(4, 1, ONE);
            Bench.due("SYNC with " + length, b.node.frame(0x80, length, -1, -1), 1);
            b.dueFrame("SYNC with " + length, 0x184, 0);
            Bench.due("0x84 is no SYNC", b.node.frame(0x84, length, 0, 0), 0);
            Bench.due("0x7F is no SYNC", b.node.frame(0x7F, length, 0, 0), 0);
        }
    }

    private static void emptyMap() {
        for (int type : new int[] {0, 1, 254}) {
            Bench b = new Bench(4);
            b.map(0x1A00, ONE);
            b.write(0x1A00, 0, 1, 0);
            b.write(0x1800, 2, 1, type);
            b.command(1);
            b.node.set(0x2000, 0, 1, 0);
            Bench.due("SYNC with TYPE " + type + ", n is 0", b.sync(), 0);
            b.command(128);
            b.write(0x1A00, 0, 1, 1);
            b.command(1);
            b.node.set(0x2000, 0, 2, 0);
            b.sync();
            Bench.due("SYNC with TYPE " + type + ", n is 1", b.node.outs(), 1);
        }
    }

    private static void onlyFirstSubs() {
        for (int n = 1; n <= 4; n++) {
            Bench b = new Bench(4);
            b.map(0x1A00, ONE, TWO, ONE, FOUR);
            b.node.set(0x2000, 0, 0x11, 0);
            b.node.set(0x2001, 0, 0x2322, 0);
            b.node.set(0x2002, 0, 0x37363534, 0);
            b.write(0x1A00, 0, 1, n);
            b.write(0x1800, 2, 1, 1);
            b.command(1);
            b.sync();
            int[] all = {0x11, 0x22, 0x23, 0x11, 0x34, 0x35, 0x36, 0x37};
            b.dueFrame("n is " + n, 0x184, java.util.Arrays.copyOf(all, new int[] {0, 1, 3, 4, 8}[n]));
        }
    }

    private static void typeZero() {
        Bench b = Bench.giving(4, 0, TWO);
        Bench.due("nothing new at first", b.sync(), 0);
        Bench.due("the call that changes it gives nothing", b.node.set(0x2001, 0, 0x0100, 0), 0);
        Bench.due("its highest byte is new", b.sync(), 1);
        b.dueFrame("its highest byte is new", 0x184, 0, 1);
        Bench.due("nothing new then", b.sync(), 0);
        b.node.set(0x2001, 0, 5, 0);
        b.node.set(0x2001, 0, 0x0100, 0);
        Bench.due("there and back is not new", b.sync(), 0);
        b.node.set(0x2001, 0, 0, 0);
        Bench.due("what was given earlier, but not last", b.sync(), 1);
    }

    private static void smallestAndLargestType() {
        Bench b = Bench.giving(4, 1, ONE);
        for (int k = 1; k <= 3; k++) {
            Bench.due("TYPE 1, SYNC " + k, b.sync(), 1);
        }
        for (int type : new int[] {239, 240}) {
            b = Bench.giving(4, type, ONE);
            for (int k = 1; k < type; k++) {
                Bench.due("TYPE " + type + ", SYNC " + k, b.sync(), 0);
            }
            Bench.due("TYPE " + type + ", the last SYNC", b.sync(), 1);
            b.dueFrame("though nothing is new", 0x184, 0);
        }
    }

    private static void roundAfterRound() {
        Bench b = Bench.giving(4, 3, ONE);
        for (int round = 1; round <= 10; round++) {
            Bench.due("SYNC 1 of round " + round, b.sync(), 0);
            Bench.due("SYNC 2 of round " + round, b.sync(), 0);
            b.node.set(0x2000, 0, round, 0);
            Bench.due("SYNC 3 of round " + round, b.sync(), 1);
            b.dueFrame("SYNC 3 of round " + round, 0x184, round);
        }
    }

    private static void syncWithEventTypes() {
        for (int type : new int[] {254, 255}) {
            Bench b = Bench.giving(4, type, ONE);
            for (int k = 1; k <= 260; k++) {
                Bench.due("TYPE " + type + ", SYNC " + k, b.sync(), 0);
            }
        }
    }

    private static void eachLength() {
        int[][] names = {{ONE}, {TWO}, {ONE, TWO}, {FOUR}, {ONE, FOUR}, {FOUR, TWO}, {FOUR, TWO, ONE}, {FOUR, FOUR}};
        for (int length = 1; length <= 8; length++) {
            Bench b = Bench.giving(length, 1, names[length - 1]);
            b.node.set(0x2000, 0, 255, 0);
            b.node.set(0x2001, 0, -1, 0);
            b.node.set(0x2002, 0, -1, 0);
            int[] all = new int[length];
            java.util.Arrays.fill(all, 255);
            b.sync();
            b.dueFrame("content of " + length, 0x180 + length, all);
        }
    }

    private static void fullContent() {
        Bench b = Bench.giving(4, 255, EIGHT);
        Bench.due("the highest byte alone", b.node.set(0x2005, 0, 0, 0x80000000), 1);
        b.dueFrame("the highest byte alone", 0x184, 0, 0, 0, 0, 0, 0, 0, 0x80);
        b = Bench.giving(4, 255, FOUR, TWO, ONE, ONE);
        b.node.set(0x2002, 0, 0x04030201, 0);
        b.node.set(0x2001, 0, 0x0605, 0);
        b.node.flush();
        b.node.set(0x2000, 0, 7, 0);
        b.dueFrame("four entries", 0x184, 1, 2, 3, 4, 5, 6, 7, 7);
    }

    private static void eachKindOfCall() {
        Bench b = new Bench(4);
        b.map(0x1600, ONE);
        b.map(0x1A00, ONE, Bench.name(0x1001, 1));
        b.command(1);
        Bench.due("set", b.node.set(0x2000, 0, 1, 0), 1);
        b.dueFrame("set", 0x184, 1, 0);
        Bench.due("take", b.take(2), 1);
        b.dueFrame("take", 0x184, 2, 0);
        Bench.due("take that is too short", b.take(), 1);
        b.dueFrame("take that is too short", 0x184, 2, 16);
        Bench.due("WRITE at once", b.ask(0x2F, 0x2000, 0, 3), 2);
        b.dueNext("WRITE at once, its answer first", 0, 0x584, 0x60, 0, 0x20, 0, 0, 0, 0, 0);
        b.dueNext("WRITE at once, then what is given", 1, 0x184, 3, 16);
        b.begin(0x20, 0x2000);
        Bench.due("the last segment", b.segment(0x0D, 4), 2);
        b.dueNext("the last segment, its answer first", 0, 0x584, 0x20, 0, 0, 0, 0, 0, 0, 0);
        b.dueNext("the last segment, then what is given", 1, 0x184, 4, 16);
        Bench.due("a tick gives nothing", b.node.tick(), 0);
    }

    private static void onlyEventTypes() {
        for (int type : new int[] {0, 1, 127, 128, 240, 254, 255}) {
            Bench b = Bench.giving(4, type, ONE);
            Bench.due("set with TYPE " + type, b.node.set(0x2000, 0, 1, 0), type >= 254 ? 1 : 0);
        }
    }

    private static void onlyWhenRunning() {
        for (int by : new int[] {128, 2}) {
            Bench b = Bench.giving(4, 255, ONE);
            b.command(by);
            Bench.due("set after command " + by, b.node.set(0x2000, 0, 1, 0), 0);
            b.dueSilence("set after command " + by);
        }
        Bench b = new Bench(4);
        b.map(0x1A00, ONE);
        Bench.due("set before it runs", b.node.set(0x2000, 0, 1, 0), 0);
        b.command(1);
        Bench.due("set when it runs", b.node.set(0x2000, 0, 2, 0), 1);
    }

    private static void setWithEmptyMap() {
        Bench b = new Bench(4);
        b.write(0x1A00, 1, 4, ONE);
        b.command(1);
        Bench.due("set, n is 0", b.node.set(0x2000, 0, 1, 0), 0);
        Bench.due("WRITE, n is 0", b.ask(0x2F, 0x2000, 0, 2), 1);
    }

    private static void notNew() {
        Bench b = new Bench(4);
        b.map(0x1600, ONE, ONE);
        b.map(0x1A00, ONE);
        b.node.set(0x2000, 0, 1, 0);
        b.command(1);
        Bench.due("as it was counted", b.node.set(0x2000, 0, 1, 0), 0);
        Bench.due("new", b.node.set(0x2000, 0, 2, 0), 1);
        Bench.due("as it was given", b.node.set(0x2000, 0, 2, 0), 0);
        Bench.due("an entry that is not mapped", b.node.set(0x2001, 0, 2, 0), 0);
        Bench.due("changed and changed back within one call", b.take(9, 2), 0);
        Bench.due("changed twice within one call", b.take(8, 9), 1);
        Bench.due("given twice, but not last", b.node.set(0x2000, 0, 2, 0), 1);
    }

    private static void storedType() {
        for (int type : new int[] {3, 2}) {
            Bench b = Bench.giving(4, 3, ONE);
            b.sync();
            b.sync();
            b.write(0x1800, 2, 1, type);
            for (int k = 1; k < type; k++) {
                Bench.due("SYNC " + k + " after TYPE " + type, b.sync(), 0);
            }
            Bench.due("SYNC " + type + " after TYPE " + type, b.sync(), 1);
        }
        Bench b = Bench.giving(4, 3, ONE);
        b.sync();
        b.sync();
        b.begin(0x20, 0x2000);
        b.ask(0x20, 0x1800, 2, 0);
        b.segment(0x0D, 3);
        Bench.due("SYNC 1 after TYPE by a segment", b.sync(), 0);
        Bench.due("SYNC 2 after TYPE by a segment", b.sync(), 0);
        Bench.due("SYNC 3 after TYPE by a segment", b.sync(), 1);
    }

    private static void givenWithoutRoom() {
        Bench b = Bench.giving(4, 255, ONE);
        for (int k = 1; k <= 32; k++) {
            b.node.set(0x2000, 0, k, 0);
        }
        Bench.due("outs()", b.node.outs(), 32);
        Bench.due("given without room", b.node.set(0x2000, 0, 99, 0), 1);
        Bench.due("outs() stays", b.node.outs(), 32);
        b.dueNext("the last that was kept", 31, 0x184, 32);
        b.node.flush();
        Bench.due("it was given all the same", b.node.set(0x2000, 0, 99, 0), 0);
        Bench.due("another one is new", b.node.set(0x2000, 0, 32, 0), 1);
    }
}
