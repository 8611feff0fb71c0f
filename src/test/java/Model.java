import java.util.ArrayList;
import java.util.Arrays;
import java.util.LinkedHashMap;
import java.util.List;
import java.util.Map;

/** The document once more, with byte arrays and the Java library, to hold the program against. */
final class Model {
    static final class Entry {
        int index;
        int sub;
        boolean r;
        boolean w;
        boolean m;
        byte[] first;
        byte[] now;
    }

    /** An abort on its way to the one place that answers it. */
    private static final class Abort extends Exception {
        private static final long serialVersionUID = 1;
        final int code;

        Abort(int code) {
            this.code = code;
        }
    }

    final Map<Integer, Entry> entries = new LinkedHashMap<>();
    final List<int[]> outbox = new ArrayList<>();
    final int n;
    int state;
    int sent;
    private int syncCount;
    private int lifeCount;
    private byte[] given = {};
    private Entry reading;
    private Entry writing;
    private byte[] came;
    private int at;
    private boolean turn;
    private int idle;

    Model(int number) {
        n = number < 1 ? 1 : number > 15 ? 15 : number;
        entry(0x1000, 0, 4, "r", 131473);
        entry(0x1001, 0, 1, "rm", 0);
        entry(0x1017, 0, 2, "rw", 0);
        entry(0x1800, 2, 1, "rw", 255);
        for (int map : new int[] {0x1600, 0x1A00}) {
            entry(map, 0, 1, "rw", 0);
            for (int sub = 1; sub < 5; sub++) {
                entry(map, sub, 4, "rw", 0);
            }
        }
        entry(0x2000, 0, 1, "rwm", 0);
        entry(0x2001, 0, 2, "rwm", 0);
        entry(0x2002, 0, 4, "rwm", 0);
        entry(0x2003, 0, 4, "rm", 0);
        entry(0x2004, 0, 12, "rw", 0);
        entry(0x2005, 0, 8, "rwm", 0);
        entry(0x2006, 0, 2, "wm", 0);
        entry(0x2007, 0, 20, "r", 0);
        Entry text = get(0x2007, 0);
        for (int i = 0; i < 20; i++) {
            text.first[i] = (byte) (65 + i);
        }
        text.now = text.first.clone();
        boot();
    }

    private void entry(int index, int sub, int size, String rights, int value) {
        Entry e = new Entry();
        e.index = index;
        e.sub = sub;
        e.r = rights.contains("r");
        e.w = rights.contains("w");
        e.m = rights.contains("m");
        e.first = Arrays.copyOf(bytes(value, 0), size);
        e.now = e.first.clone();
        entries.put(index << 8 | sub, e);
    }

    Entry get(int index, int sub) {
        return index < 0 || index > 0xFFFF || sub < 0 || sub > 255 ? null : entries.get(index << 8 | sub);
    }

    boolean busy() {
        return reading != null || writing != null;
    }

    private static byte[] bytes(int low, int high) {
        byte[] all = new byte[8];
        for (int i = 0; i < 4; i++) {
            all[i] = (byte) (low >> 8 * i);
            all[4 + i] = (byte) (high >> 8 * i);
        }
        return all;
    }

    private static int number(byte... all) {
        int value = 0;
        for (int i = Math.min(all.length, 4) - 1; i >= 0; i--) {
            value = value * 256 + (all[i] & 255);
        }
        return value;
    }

    private void send(int id, byte... all) {
        sent++;
        if (outbox.size() < 32) {
            byte[] eight = Arrays.copyOf(all, 8);
            outbox.add(new int[] {id, all.length, number(eight), number(Arrays.copyOfRange(eight, 4, 8))});
        }
    }

    private void boot() {
        send(0x700 + n, (byte) 0);
        state = 127;
        forget();
        syncCount = 0;
        lifeCount = 0;
    }

    private void forget() {
        reading = null;
        writing = null;
    }

    private int one(int index, int sub) {
        return number(get(index, sub).now);
    }

    private Entry named(int name, boolean toTake) {
        for (Entry e : entries.values()) {
            if (e.m && (toTake ? e.w : e.r) && name == e.index * 65536 + e.sub * 256 + 8 * e.now.length) {
                return e;
            }
        }
        return null;
    }

    private List<Entry> mapped(int map) {
        List<Entry> all = new ArrayList<>();
        for (int sub = 1; sub <= one(map, 0); sub++) {
            all.add(named(one(map, sub), map == 0x1600));
        }
        return all;
    }

    private byte[] content() {
        byte[] all = {};
        for (Entry e : mapped(0x1A00)) {
            int end = all.length;
            all = Arrays.copyOf(all, end + e.now.length);
            System.arraycopy(e.now, 0, all, end, e.now.length);
        }
        return all;
    }

    private void give() {
        given = content();
        send(0x180 + n, given);
    }

    private void end() {
        if (state == 5 && one(0x1800, 2) >= 254 && one(0x1A00, 0) != 0 && !Arrays.equals(given, content())) {
            give();
        }
    }

    int frame(int id, int length, int low, int high) {
        if (id < 0 || id >= 2048 || length < 0 || length > 8) {
            throw new IllegalArgumentException();
        }
        int old = sent;
        byte[] all = Arrays.copyOf(bytes(low, high), length);
        if (id == 0 && length == 2 && (all[1] == 0 || all[1] == n)) {
            command(all[0] & 255);
        }
        if (id == 0x80 && state == 5 && one(0x1A00, 0) != 0) {
            sync(one(0x1800, 2));
        }
        if (id == 0x200 + n && state == 5 && one(0x1600, 0) != 0) {
            take(all);
        }
        if (id == 0x600 + n && length == 8 && (state == 5 || state == 127)) {
            request(all);
        }
        end();
        return sent - old;
    }

    private void command(int what) {
        if (what == 1 && state != 5) {
            state = 5;
            syncCount = 0;
            given = content();
        } else if (what == 2) {
            state = 4;
            forget();
        } else if (what == 128) {
            state = 127;
        } else if (what == 129 || what == 130) {
            for (Entry e : entries.values()) {
                if (what == 129 || e.index < 0x2000) {
                    e.now = e.first.clone();
                }
            }
            boot();
        }
    }

    private void sync(int type) {
        if (type == 0 && !Arrays.equals(given, content())) {
            give();
        }
        if (type >= 1 && type <= 240 && ++syncCount >= type) {
            syncCount = 0;
            give();
        }
    }

    private void take(byte[] all) {
        int length = 0;
        for (Entry e : mapped(0x1600)) {
            length += e.now.length;
        }
        if (all.length < length) {
            get(0x1001, 0).now[0] |= 16;
            return;
        }
        int from = 0;
        for (Entry e : mapped(0x1600)) {
            e.now = Arrays.copyOfRange(all, from, from + e.now.length);
            from += e.now.length;
        }
    }

    private void answer(int first, int index, int sub, int high) {
        byte[] all = bytes(0, high);
        all[0] = (byte) first;
        all[1] = (byte) index;
        all[2] = (byte) (index >> 8);
        all[3] = (byte) sub;
        send(0x580 + n, all);
    }

    private void abort(int index, int sub, int code) {
        forget();
        answer(128, index, sub, code);
    }

    private void request(byte[] q) {
        int command = (q[0] & 255) / 32;
        int index = (q[1] & 255) + (q[2] & 255) * 256;
        int sub = q[3] & 255;
        Entry of = reading != null ? reading : writing;
        try {
            if (command == 4) {
                forget();
            } else if (command == 1) {
                write(q, index, sub);
            } else if (command == 2) {
                read(index, sub);
            } else if (command == 0 && writing != null) {
                segmentIn(q);
            } else if (command == 3 && reading != null) {
                segmentOut(q);
            } else {
                throw new Abort(0x05040001);
            }
        } catch (Abort a) {
            boolean segment = command == 0 || command == 3;
            if (!segment) {
                abort(index, sub, a.code);
            } else {
                abort(of == null ? 0 : of.index, of == null ? 0 : of.sub, a.code);
            }
        }
    }

    private Entry known(int index, int sub) throws Abort {
        boolean has = false;
        for (Entry e : entries.values()) {
            has |= e.index == index;
        }
        if (!has) {
            throw new Abort(0x06020000);
        }
        if (get(index, sub) == null) {
            throw new Abort(0x06090011);
        }
        return get(index, sub);
    }

    private void write(byte[] q, int index, int sub) throws Abort {
        forget();
        Entry e = known(index, sub);
        if (!e.w) {
            throw new Abort(0x06010002);
        }
        boolean told = q[0] % 2 != 0;
        boolean now = q[0] / 2 % 2 != 0;
        int length;
        if (now && told) {
            length = 4 - q[0] / 4 % 4;
        } else if (now) {
            length = Math.min(e.now.length, 4);
        } else if (told) {
            length = number(Arrays.copyOfRange(q, 4, 8));
        } else {
            length = e.now.length;
        }
        if (length > e.now.length) {
            throw new Abort(0x06070012);
        }
        if (length < e.now.length) {
            throw new Abort(0x06070013);
        }
        if (now) {
            store(e, Arrays.copyOfRange(q, 4, 4 + length));
        } else {
            writing = e;
            came = new byte[0];
            turn = false;
            idle = 0;
        }
        answer(0x60, index, sub, 0);
    }

    private void checkTurn(byte[] q) throws Abort {
        if (((q[0] & 16) != 0) != turn) {
            throw new Abort(0x05030000);
        }
    }

    private void segmentIn(byte[] q) throws Abort {
        checkTurn(q);
        int more = 7 - (q[0] >> 1 & 7);
        byte[] all = Arrays.copyOf(came, came.length + more);
        System.arraycopy(q, 1, all, came.length, more);
        if (all.length > writing.now.length) {
            throw new Abort(0x06070012);
        }
        came = all;
        turn = !turn;
        idle = 0;
        if (q[0] % 2 != 0) {
            if (all.length < writing.now.length) {
                throw new Abort(0x06070013);
            }
            store(writing, all);
            forget();
        }
        answer((q[0] & 16) == 0 ? 0x20 : 0x30, 0, 0, 0);
    }

    private void read(int index, int sub) throws Abort {
        forget();
        Entry e = known(index, sub);
        if (!e.r) {
            throw new Abort(0x06010001);
        }
        if (e.now.length <= 4) {
            answer(0x43 + 4 * (4 - e.now.length), index, sub, number(e.now));
            return;
        }
        reading = e;
        at = 0;
        turn = false;
        idle = 0;
        answer(0x41, index, sub, e.now.length);
    }

    private void segmentOut(byte[] q) throws Abort {
        checkTurn(q);
        int to = Math.min(at + 7, reading.now.length);
        byte[] all = new byte[8];
        System.arraycopy(reading.now, at, all, 1, to - at);
        boolean last = to == reading.now.length;
        all[0] = (byte) ((turn ? 16 : 0) + 2 * (7 - (to - at)) + (last ? 1 : 0));
        send(0x580 + n, all);
        at = to;
        turn = !turn;
        idle = 0;
        if (last) {
            forget();
        }
    }

    private void store(Entry e, byte[] all) throws Abort {
        int value = number(all);
        if (e.index == 0x1600 || e.index == 0x1A00) {
            if (state != 127) {
                throw new Abort(0x08000022);
            }
            if (e.sub == 0) {
                checkCount(e.index, value);
            } else if (one(e.index, 0) != 0) {
                throw new Abort(0x06010000);
            } else if (value != 0 && named(value, e.index == 0x1600) == null) {
                throw new Abort(0x06040041);
            }
        }
        if (e.index == 0x1800) {
            if (value >= 241 && value <= 253) {
                throw new Abort(0x06090030);
            }
            syncCount = 0;
        }
        if (e.index == 0x1017) {
            lifeCount = 0;
        }
        e.now = all.clone();
    }

    private void checkCount(int map, int count) throws Abort {
        if (count > 4) {
            throw new Abort(0x06090030);
        }
        int length = 0;
        boolean lacks = false;
        for (int sub = 1; sub <= count; sub++) {
            Entry e = named(one(map, sub), map == 0x1600);
            lacks |= e == null;
            length += e == null ? 0 : e.now.length;
        }
        if (lacks) {
            throw new Abort(0x06040041);
        }
        if (length > 8) {
            throw new Abort(0x06040042);
        }
    }

    int tick() {
        int old = sent;
        int life = one(0x1017, 0);
        if (life != 0 && ++lifeCount >= life) {
            lifeCount = 0;
            send(0x700 + n, (byte) state);
        }
        if (busy() && ++idle == 8) {
            Entry of = reading != null ? reading : writing;
            abort(of.index, of.sub, 0x05040000);
        }
        return sent - old;
    }

    int set(int index, int sub, int low, int high) {
        Entry e = get(index, sub);
        if (e == null || index < 0x2000 || e.now.length > 8) {
            throw new java.util.NoSuchElementException();
        }
        int old = sent;
        e.now = Arrays.copyOf(bytes(low, high), e.now.length);
        end();
        return sent - old;
    }
}
