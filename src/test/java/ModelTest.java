import java.util.NoSuchElementException;
import java.util.Random;

/** Runs of calls, the same ones each time, with the model's answers as those that are due. */
final class ModelTest {
    private static final int RUNS = 12000;
    /** The document promises 512 calls of an object, and the last look at all of it needs its share. */
    private static final int CALLS = 512;
    private static final int LOOK = 3 + 32 * 4 + 95;
    private static final int LONGEST_STEP = 2 + 32 * 4;
    private static final int THROWN = -99;
    private static final int[] INDEX = {0x1000, 0x1001, 0x1017, 0x1600, 0x1800, 0x1A00, 0x2000, 0x2001,
        0x2002, 0x2003, 0x2004, 0x2005, 0x2006, 0x2007, 0x2008};
    private static final int[] STATES = {1, 1, 1, 128, 128, 2, 129, 130, 3};
    private static final int[] TYPES = {0, 0, 1, 2, 3, 240, 241, 253, 254, 255, 255};

    private final Random random;
    private final Model model;
    private final MappedBusNode node;
    private final StringBuilder story = new StringBuilder();
    private int turn;
    private int used;
    private boolean wrong;

    private ModelTest(int seed) {
        random = new Random(seed);
        int number = random.nextInt(19) - 1;
        model = new Model(number);
        node = new MappedBusNode(number);
        story.append("run ").append(seed).append(": new(").append(number).append(")");
    }

    public static void main(String[] args) {
        for (int seed = 0; seed < RUNS; seed++) {
            if (!new ModelTest(seed).run()) {
                System.exit(1);
            }
        }
    }

    private boolean run() {
        int most = random.nextInt(CALLS - LOOK - LONGEST_STEP);
        while (used <= most && !wrong) {
            step();
        }
        lookAtAll();
        if (wrong) {
            System.out.println(story);
        }
        return !wrong;
    }

    private int pick(int... of) {
        return of[random.nextInt(of.length)];
    }

    private void step() {
        int kind = random.nextInt(100);
        if (kind < 8) {
            tick();
        } else if (kind < 22) {
            set();
        } else if (kind < 25) {
            frame(0, random.nextInt(8) == 0 ? random.nextInt(9) : 2,
                    pick(STATES) | pick(0, 0, model.n, 3) << 8 | random.nextInt(4) << 16, random.nextInt());
        } else if (kind < 35) {
            frame(0x80, random.nextInt(9), random.nextInt(), random.nextInt());
        } else if (kind < 42) {
            frame(0x200 + model.n, pick(0, 1, 2, 3, 4, 5, 6, 7, 8, 8, 8, 8), random.nextInt(), random.nextInt());
        } else if (kind < 44) {
            frame(random.nextInt(2060) - 6, random.nextInt(11) - 1, random.nextInt(), random.nextInt());
        } else if (kind < 47) {
            flush();
        } else {
            request();
        }
    }

    private void request() {
        int kind = random.nextInt(100);
        int id = 0x600 + model.n;
        if (kind < 14) {
            ask(0x40 + random.nextInt(32), pick(INDEX), pick(0, 0, 0, 0, 1, 2), random.nextInt());
        } else if (kind < 34) {
            segments(0x60);
        } else if (kind < 54) {
            segments(0x00);
        } else if (kind < 70) {
            mapEntry();
        } else if (kind < 76) {
            ask(0x2F, 0x1800, 2, pick(TYPES));
        } else if (kind < 80) {
            ask(0x2B, 0x1017, 0, pick(0, 1, 2, 3, 5, 300));
        } else if (kind < 88) {
            int index = pick(INDEX);
            int size = model.get(index, 0) == null ? 1 : model.get(index, 0).now.length;
            ask(pick(0x20, 0x21, 0x21), index, 0, pick(size, size, size, size - 1, size + 1, -size));
        } else if (kind < 97) {
            ask(0x20 + random.nextInt(16), pick(INDEX), pick(0, 0, 0, 2), random.nextInt());
        } else {
            frame(id, 8, random.nextInt(), random.nextInt());
        }
    }

    /** One segment, or some behind one another, with the turn that is due but for a few. */
    private void segments(int command) {
        int many = 1 + random.nextInt(4);
        if (random.nextInt(3) > 0) {
            turn = 0;
            int index = command == 0 ? pick(0x2004, 0x2005, 0x2005, 0x2001, 0x1017) : pick(0x2004, 0x2005, 0x2007);
            ask(command == 0 ? 0x20 : 0x40, index, 0, 0);
        }
        for (int k = 0; k < many; k++) {
            int first = command | (random.nextInt(20) == 0 ? 16 - turn : turn);
            if (command == 0) {
                int left = Math.max(0, random.nextInt(9) - 2);
                first |= left << 1 | (random.nextInt(3) == 0 ? 1 : 0);
            } else {
                first |= random.nextInt(16);
            }
            frame(0x600 + model.n, 8, first | random.nextInt() << 8, random.nextInt());
            turn = 16 - turn;
            for (int t = random.nextInt(24) == 0 ? 9 : random.nextInt(3); t > 0; t--) {
                tick();
            }
        }
    }

    private void mapEntry() {
        int map = pick(0x1600, 0x1A00);
        if (random.nextInt(10) == 0) {
            frame(0, 2, 128, 0);
        }
        if (random.nextInt(3) == 0) {
            ask(0x2F, map, 0, pick(0, 0, 1, 2, 2, 3, 3, 4, 4, 5));
            return;
        }
        ask(0x2F, map, 0, 0);
        int subs = 1 + random.nextInt(4);
        for (int sub = 1; sub <= subs; sub++) {
            int index = pick(0x1001, 0x2000, 0x2000, 0x2000, 0x2001, 0x2001, 0x2002, 0x2003, 0x2005, 0x2006, 0x2004);
            int name = index * 65536 + 8 * model.get(index, 0).now.length;
            ask(0x23, map, sub, random.nextInt(20) == 0 ? pick(0, name + 1, name + 256) : name);
        }
        ask(0x2F, map, 0, subs);
        if (random.nextInt(3) == 0) {
            frame(0, 2, 1, 0);
        }
    }

    private void ask(int first, int index, int sub, int high) {
        frame(0x600 + model.n, 8, first | index << 8 | sub << 24, high);
    }

    private void told(String call, int got, int want) {
        used++;
        story.append("; ").append(call).append(" -> ").append(got);
        if (got != want) {
            story.append(" BUT DUE IS ").append(want);
            wrong = true;
        }
    }

    private void frame(int id, int length, int low, int high) {
        int want;
        int got;
        try {
            want = model.frame(id, length, low, high);
        } catch (IllegalArgumentException e) {
            want = THROWN;
        }
        try {
            got = node.frame(id, length, low, high);
        } catch (IllegalArgumentException e) {
            got = THROWN;
        }
        told("frame(" + id + ", " + length + ", " + low + ", " + high + ")", got, want);
    }

    private void tick() {
        told("tick()", node.tick(), model.tick());
    }

    private void set() {
        int index = random.nextInt(10) == 0 ? pick(INDEX) : pick(0x2000, 0x2001, 0x2002, 0x2003, 0x2005);
        int sub = random.nextInt(30) == 0 ? 1 : 0;
        int low = random.nextInt(3);
        int high = random.nextInt(3) << 24;
        int want;
        int got;
        try {
            want = model.set(index, sub, low, high);
        } catch (NoSuchElementException e) {
            want = THROWN;
        }
        try {
            got = node.set(index, sub, low, high);
        } catch (NoSuchElementException e) {
            got = THROWN;
        }
        told("set(" + index + ", " + sub + ", " + low + ", " + high + ")", got, want);
    }

    private void flush() {
        lookAtOutbox();
        told("flush()", node.flush(), model.outbox.size());
        model.outbox.clear();
    }

    private void lookAtOutbox() {
        told("outs()", node.outs(), model.outbox.size());
        for (int k = 0; !wrong && k < model.outbox.size(); k++) {
            for (int what = 0; what < 4; what++) {
                told("out(" + k + ", " + what + ")", node.out(k, what), model.outbox.get(k)[what]);
            }
        }
    }

    private void lookAtAll() {
        told("state()", node.state(), model.state);
        told("busy()", node.busy() ? 1 : 0, model.busy() ? 1 : 0);
        lookAtOutbox();
        for (Model.Entry e : model.entries.values()) {
            for (int i = 0; i < e.now.length; i++) {
                told("value(" + e.index + ", " + e.sub + ", " + i + ")",
                        node.value(e.index, e.sub, i), e.now[i] & 255);
            }
        }
    }
}
