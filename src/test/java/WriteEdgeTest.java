/** Boundary cases of promises 2 and 8: WRITE, and segments that are written. */
final class WriteEdgeTest {
    private static final int[] INDEX = {0x2000, 0x2001, 0x2002, 0x2005, 0x2004};
    private static final int[] SIZE = {1, 2, 4, 8, 12};
    private static final int MORE = 0x06070012;
    private static final int FEWER = 0x06070013;

    public static void main(String[] args) {
        Bench.edge("2 and 8", "1, WRITE: a transfer that goes on is forgotten", WriteEdgeTest::forgotten);
        Bench.edge("2", "Aborted with 0x06020000 when no entry has the index", WriteEdgeTest::noIndex);
        Bench.edge("2", "0x06090011 when none of them has the sub", WriteEdgeTest::noSub);
        Bench.edge("2", "0x06010002 when it is not writable", WriteEdgeTest::notWritable);
        Bench.edge("2", "as many as the entry's size but at most 4", WriteEdgeTest::atOnceUntold);
        Bench.edge("2", "when bit 0 is set, too, 4 less the number in bits 2 and 3", WriteEdgeTest::atOnceTold);
        Bench.edge("2 and 8", "as many as HIGH (an int, with sign) says when bit 0 is set",
                WriteEdgeTest::highHasASign);
        Bench.edge("2 and 8", "else as the entry's size", WriteEdgeTest::transferUntold);
        Bench.edge("2", "Aborted with 0x06070012 when these are more than the entry's size, 0x06070013 when fewer",
                WriteEdgeTest::lengthBeforeStore);
        Bench.edge("2", "The answer: byte 0 = 0x60, index and sub, 0", WriteEdgeTest::theAnswer);
        Bench.edge("2", "aborted with 0x05030000 when bit 4 is not that due (0 at first, then the other one each time)",
                WriteEdgeTest::wrongTurn);
        Bench.edge("2", "Bytes 1 .. 7 less the number in bits 1 .. 3 are put behind the others",
                WriteEdgeTest::eachNumber);
        Bench.edge("2", "0x06070012 when these are more than the size then", WriteEdgeTest::tooMany);
        Bench.edge("2", "when bit 0 is set it is the last one: 0x06070013 when they are fewer than the size",
                WriteEdgeTest::tooFew);
        Bench.edge("2 and 8", "otherwise they are STORED and the transfer ends", WriteEdgeTest::storedByTheLast);
        Bench.edge("2", "The answer: byte 0 = 0x20 + bit 4 of the request, then 0", WriteEdgeTest::answersOfSegments);
        Bench.edge("2", "or a segment that is not due: aborted with 0x05040001", WriteEdgeTest::notDue);
        Bench.done();
    }

    private static void forgotten() {
        for (int first : new int[] {0x20, 0x40}) {
            Bench b = new Bench(6);
            b.begin(first, 0x2004);
            b.write(0x2000, 0, 1, 1);
            Bench.due("busy() after a WRITE at once", b.node.busy(), false);
            b.begin(first, 0x2004);
            b.writeFails(0x2008, 0, 1, 1, 0x06020000);
            b.begin(first, 0x2004);
            b.writeFails(0x1800, 2, 1, 241, 0x06090030);
            b.begin(first, 0x2004);
            b.segment(first == 0x20 ? 0x00 : 0x60);
            b.begin(0x20, 0x2005);
            b.segment(0x00, 1, 2, 3, 4, 5, 6, 7);
            b.dueFrame("the new transfer begins with turn 0", 0x586, 0x20, 0, 0, 0, 0, 0, 0, 0);
            b.segment(0x1D, 8);
            b.dueBytes(0x2005, 0, 1, 2, 3, 4, 5, 6, 7, 8);
            b.dueBytes(0x2004, 0, 0, 0, 0, 0, 0, 0, 0, 0, 0, 0, 0, 0);
        }
    }

    private static void noIndex() {
        Bench b = new Bench(6);
        for (int index : new int[] {0, 1, 0x0FFF, 0x1002, 0x1601, 0x17FF, 0x1801, 0x1FFF, 0x2008, 0x0020, 0x2100,
            0xFFFF}) {
            b.writeFails(index, 0, 1, 1, 0x06020000);
            b.writeFails(index, 2, 1, 1, 0x06020000);
            b.writeFails(index, 255, 4, 1, 0x06020000);
        }
    }

    private static void noSub() {
        Bench b = new Bench(6);
        int[][] rows = {{0x1000, 1}, {0x1001, 1}, {0x1017, 1}, {0x1600, 5}, {0x1600, 255}, {0x1800, 0}, {0x1800, 1},
            {0x1800, 3}, {0x1A00, 5}, {0x2000, 1}, {0x2003, 1}, {0x2004, 128}, {0x2007, 255}};
        for (int[] row : rows) {
            b.writeFails(row[0], row[1], 1, 1, 0x06090011);
            b.writeFails(row[0], row[1], 4, 1, 0x06090011);
        }
    }

    private static void notWritable() {
        Bench b = new Bench(6);
        for (int index : new int[] {0x1000, 0x1001, 0x2003, 0x2007}) {
            for (int size = 1; size <= 4; size++) {
                b.writeFails(index, 0, size, 1, 0x06010002);
            }
            b.ask(0x21, index, 0, 99);
            b.dueAbort("not writable, too long", index, 0, 0x06010002);
        }
        NewObjectTest.entriesAreAsAtFirst(b.node);
        b.write(0x2006, 0, 2, 0x0201);
        b.dueBytes(0x2006, 0, 1, 2);
    }

    private static void atOnceUntold() {
        for (int k = 0; k < SIZE.length; k++) {
            for (int bits = 0; bits < 4; bits++) {
                Bench b = new Bench(6);
                b.ask(0x22 + 4 * bits, INDEX[k], 0, 0x84838281);
                if (SIZE[k] > 4) {
                    b.dueAbort("4 of " + SIZE[k], INDEX[k], 0, FEWER);
                } else {
                    b.dueAnswer("all of " + SIZE[k], 0x60, INDEX[k], 0, 0);
                    b.dueBytes(INDEX[k], 0, java.util.Arrays.copyOf(new int[] {0x81, 0x82, 0x83, 0x84}, SIZE[k]));
                }
            }
        }
    }

    private static void atOnceTold() {
        for (int k = 0; k < SIZE.length; k++) {
            for (int bits = 0; bits < 4; bits++) {
                Bench b = new Bench(6);
                int told = 4 - bits;
                b.ask(0x23 + 4 * bits, INDEX[k], 0, 0x84838281);
                if (told == SIZE[k]) {
                    b.dueAnswer(told + " of " + SIZE[k], 0x60, INDEX[k], 0, 0);
                    b.dueBytes(INDEX[k], 0, java.util.Arrays.copyOf(new int[] {0x81, 0x82, 0x83, 0x84}, SIZE[k]));
                } else {
                    b.dueAbort(told + " of " + SIZE[k], INDEX[k], 0, told > SIZE[k] ? MORE : FEWER);
                    Bench.due("byte 0 stays", b.node.value(INDEX[k], 0, 0), 0);
                }
            }
        }
    }

    private static void highHasASign() {
        for (int k = 0; k < SIZE.length; k++) {
            Bench b = new Bench(6);
            for (int high : new int[] {Integer.MIN_VALUE, Integer.MIN_VALUE + SIZE[k], -SIZE[k], -1, 0, SIZE[k] - 1}) {
                b.ask(0x21, INDEX[k], 0, high);
                b.dueAbort(high + " of " + SIZE[k], INDEX[k], 0, FEWER);
            }
            for (int high : new int[] {SIZE[k] + 1, 256 + SIZE[k], 65536 + SIZE[k], Integer.MAX_VALUE}) {
                b.ask(0x21, INDEX[k], 0, high);
                b.dueAbort(high + " of " + SIZE[k], INDEX[k], 0, MORE);
            }
            b.ask(0x21, INDEX[k], 0, SIZE[k]);
            b.dueAnswer("as many as the size", 0x60, INDEX[k], 0, 0);
            Bench.due("busy()", b.node.busy(), true);
        }
    }

    private static void transferUntold() {
        for (int k = 0; k < SIZE.length; k++) {
            for (int high : new int[] {0, -1, SIZE[k] + 1, Integer.MIN_VALUE}) {
                Bench b = new Bench(6);
                b.ask(0x20, INDEX[k], 0, high);
                b.dueAnswer("untold, HIGH " + high, 0x60, INDEX[k], 0, 0);
                Bench.due("busy()", b.node.busy(), true);
                Bench.due("nothing is stored yet", b.node.value(INDEX[k], 0, 0), 0);
            }
        }
    }

    private static void lengthBeforeStore() {
        Bench b = new Bench(6);
        b.writeFails(0x1800, 2, 2, 241, MORE);
        b.writeFails(0x1017, 0, 1, 1, FEWER);
        b.writeFails(0x1017, 0, 4, 1, MORE);
        b.writeFails(0x1A00, 0, 4, 9, MORE);
        b.writeFails(0x1A00, 1, 2, 9, FEWER);
        b.command(1);
        b.writeFails(0x1600, 0, 3, 0, MORE);
        b.writeFails(0x1600, 4, 3, 0, FEWER);
    }

    private static void theAnswer() {
        Bench b = new Bench(15);
        Bench.due("at once", b.ask(0x23, 0x1A00, 4, Bench.name(0x2003, 4)), 1);
        b.dueFrame("at once", 0x58F, 0x60, 0x00, 0x1A, 4, 0, 0, 0, 0);
        Bench.due("a transfer", b.ask(0x31, 0x1600, 3, 4), 1);
        b.dueFrame("a transfer", 0x58F, 0x60, 0x00, 0x16, 3, 0, 0, 0, 0);
    }

    private static void wrongTurn() {
        Bench b = new Bench(6);
        b.begin(0x20, 0x2004);
        b.segment(0x10, 1, 2, 3, 4, 5, 6, 7);
        b.dueAbort("1 at first", 0x2004, 0, 0x05030000);
        for (int right = 1; right <= 4; right++) {
            b.begin(0x20, 0x2004);
            for (int k = 0; k < right; k++) {
                Bench.due("a segment without bytes", b.segment(k % 2 == 0 ? 0x0E : 0x1E), 1);
            }
            Bench.due("busy() after " + right, b.node.busy(), true);
            b.node.flush();
            b.segment(right % 2 == 0 ? 0x1E : 0x0E);
            b.dueAbort("the same turn after " + right, 0x2004, 0, 0x05030000);
        }
        b.begin(0x20, 0x2000);
        b.segment(0x11, 1, 2, 3, 4, 5, 6, 7);
        b.dueAbort("the turn is looked at before the size", 0x2000, 0, 0x05030000);
        b.begin(0x20, 0x2000);
        b.segment(0x1F);
        b.dueAbort("the turn is looked at before the end", 0x2000, 0, 0x05030000);
    }

    private static void eachNumber() {
        for (int left = 0; left < 8; left++) {
            Bench b = new Bench(6);
            b.begin(0x20, 0x2004);
            b.segment(2 * left, 11, 12, 13, 14, 15, 16, 17);
            int count = 7 - left;
            int rest = 12 - count;
            int second = Math.min(7, rest);
            b.segment(0x10 + 2 * (7 - second), 21, 22, 23, 24, 25, 26, 27);
            b.segment(0x01 + 2 * (7 - (rest - second)), 31, 32, 33, 34, 35, 36, 37);
            Bench.due("busy() with " + count + " first", b.node.busy(), false);
            for (int i = 0; i < 12; i++) {
                int want = i < count ? 11 + i : i < count + second ? 21 + i - count : 31 + i - count - second;
                Bench.due("byte " + i + " with " + count + " first", b.node.value(0x2004, 0, i), want);
            }
        }
    }

    private static void tooMany() {
        for (int last = 0; last < 2; last++) {
            Bench b = new Bench(6);
            for (int k = 0; k < 3; k++) {
                b.begin(0x20, INDEX[k]);
                b.segment(2 * (7 - SIZE[k] - 1) + last, 1, 2, 3, 4, 5, 6, 7);
                b.dueAbort("one more than " + SIZE[k], INDEX[k], 0, MORE);
            }
            b.begin(0x20, 0x2004);
            b.segment(0x00, 1, 2, 3, 4, 5, 6, 7);
            b.node.flush();
            b.segment(0x12 + last, 8, 9, 10, 11, 12, 13);
            b.dueAbort("13 of 12", 0x2004, 0, MORE);
            b.begin(0x20, 0x2005);
            b.segment(0x00, 1, 2, 3, 4, 5, 6, 7);
            b.segment(0x1C, 8);
            b.node.flush();
            b.segment(0x0C + last, 9);
            b.dueAbort("one behind all of them", 0x2005, 0, MORE);
            NewObjectTest.entriesAreAsAtFirst(b.node);
        }
    }

    private static void tooFew() {
        Bench b = new Bench(6);
        for (int k = 0; k < SIZE.length; k++) {
            b.begin(0x20, INDEX[k]);
            b.segment(0x0F);
            b.dueAbort("none of " + SIZE[k], INDEX[k], 0, FEWER);
        }
        b.begin(0x20, 0x2002);
        b.segment(0x09, 1, 2, 3);
        b.dueAbort("3 of 4", 0x2002, 0, FEWER);
        b.begin(0x20, 0x2005);
        b.segment(0x01, 1, 2, 3, 4, 5, 6, 7);
        b.dueAbort("7 of 8", 0x2005, 0, FEWER);
        b.begin(0x20, 0x2004);
        b.segment(0x00, 1, 2, 3, 4, 5, 6, 7);
        b.node.flush();
        b.segment(0x17, 8, 9, 10, 11);
        b.dueAbort("11 of 12", 0x2004, 0, FEWER);
        NewObjectTest.entriesAreAsAtFirst(b.node);
    }

    private static void storedByTheLast() {
        for (int k = 0; k < SIZE.length; k++) {
            Bench b = new Bench(6);
            b.begin(0x20, INDEX[k]);
            int turn = 0;
            for (int done = 0; done < SIZE[k]; done++) {
                b.segment(0x0C + turn, done + 1);
                turn = 16 - turn;
                Bench.due("not stored yet", b.node.value(INDEX[k], 0, 0), 0);
            }
            Bench.due("busy() with all bytes, but not the last segment", b.node.busy(), true);
            Bench.due("the last one, without bytes", b.segment(0x0F + turn), 1);
            Bench.due("busy()", b.node.busy(), false);
            for (int i = 0; i < SIZE[k]; i++) {
                Bench.due("byte " + i, b.node.value(INDEX[k], 0, i), i + 1);
            }
            b.node.flush();
            b.segment(0x0F + 16 - turn);
            b.dueAbort("one behind the last", 0, 0, 0x05040001);
        }
    }

    private static void answersOfSegments() {
        Bench b = new Bench(6);
        b.begin(0x20, 0x2004);
        Bench.due("first", b.segment(0x00, 1, 2, 3, 4, 5, 6, 7), 1);
        b.dueFrame("first", 0x586, 0x20, 0, 0, 0, 0, 0, 0, 0);
        Bench.due("second", b.segment(0x1C, 8), 1);
        b.dueFrame("second", 0x586, 0x30, 0, 0, 0, 0, 0, 0, 0);
        Bench.due("third and last", b.segment(0x07, 9, 10, 11, 12), 1);
        b.dueFrame("third and last", 0x586, 0x20, 0, 0, 0, 0, 0, 0, 0);
    }

    private static void notDue() {
        Bench b = new Bench(6);
        for (int first = 0; first < 32; first++) {
            Bench.due("no transfer", b.segment(first, 0x00, 0x20, 0), 1);
            b.dueAbort("no transfer", 0, 0, 0x05040001);
        }
        for (int turn = 0; turn <= 16; turn += 16) {
            b.begin(0x40, 0x2007);
            b.segment(turn, 0x00, 0x20, 0);
            b.dueAbort("a transfer that reads", 0x2007, 0, 0x05040001);
        }
        b.ask(0x20, 0x1A00, 2, 0);
        b.node.flush();
        b.segment(0x60);
        b.dueAbort("a transfer that writes", 0x1A00, 2, 0x05040001);
    }
}
