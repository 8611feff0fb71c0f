import java.util.NoSuchElementException;

/** A node on a bus of short frames. The promises it keeps are those of DOC.md. */
public final class MappedBusNode {
    public static final int PRE = 127;
    public static final int RUNNING = 5;
    public static final int STOPPED = 4;

    private static final int COMMAND_ID = 0;
    private static final int SYNC_ID = 0x80;
    private static final int GIVE_ID = 0x180;
    private static final int TAKE_ID = 0x200;
    private static final int ANSWER_ID = 0x580;
    private static final int REQUEST_ID = 0x600;
    private static final int LIFE_ID = 0x700;

    private static final int WRONG_TURN = 0x05030000;
    private static final int TOO_LATE = 0x05040000;
    private static final int NOT_DUE = 0x05040001;
    private static final int MAP_IN_USE = 0x06010000;
    private static final int NOT_READABLE = 0x06010001;
    private static final int NOT_WRITABLE = 0x06010002;
    private static final int NO_INDEX = 0x06020000;
    private static final int NOT_MAPPABLE = 0x06040041;
    private static final int CONTENT_TOO_LONG = 0x06040042;
    private static final int TOO_MANY_BYTES = 0x06070012;
    private static final int TOO_FEW_BYTES = 0x06070013;
    private static final int NO_SUB = 0x06090011;
    private static final int BAD_VALUE = 0x06090030;
    private static final int WRONG_STATE = 0x08000022;

    private static final int LAST_OR_TOLD = 1;
    private static final int AT_ONCE = 2;
    private static final int TURN = 16;
    private static final int PATIENCE = 8;
    private static final int LAST_SYNC_TYPE = 240;
    private static final int FIRST_EVENT_TYPE = 254;
    private static final int SHORT_FRAME_ERROR = 16;

    private final int number;
    private final Dictionary dictionary;
    private final Mapping taking;
    private final Mapping giving;
    private final Outbox outbox;
    private final Transfer transfer;
    private int state;
    private int syncCount;
    private int lifeCount;
    private long given;

    public MappedBusNode(int number) {
        this.number = Math.max(1, Math.min(15, number));
        Dictionary entries = new Dictionary();
        dictionary = entries;
        taking = new Mapping(entries, Dictionary.TAKING, Dictionary.WRITABLE);
        giving = new Mapping(entries, Dictionary.GIVING, Dictionary.READABLE);
        outbox = new Outbox();
        transfer = new Transfer();
        boot();
    }

    public int frame(int id, int length, int low, int high) throws IllegalArgumentException {
        if (id < 0 || id > 2047 || length < 0 || length > 8) {
            throw new IllegalArgumentException();
        }
        int before = outbox.sent;
        if (id == COMMAND_ID && length == 2) {
            command(low & 255, low >> 8 & 255);
        } else if (id == SYNC_ID) {
            sync();
        } else if (id == TAKE_ID + number) {
            take(length, joined(low, high));
        } else if (id == REQUEST_ID + number && length == 8 && state != STOPPED) {
            request(low, high);
        }
        giveWhenChanged();
        return outbox.sent - before;
    }

    public int tick() {
        int before = outbox.sent;
        beat();
        if (transfer.going) {
            transfer.ticks++;
            if (transfer.ticks >= PATIENCE) {
                abort(transfer.address, TOO_LATE);
            }
        }
        return outbox.sent - before;
    }

    public int set(int index, int sub, int low, int high) throws NoSuchElementException {
        int entry = dictionary.find(index, sub);
        if (entry < Dictionary.FIRST_FREE || Dictionary.sizeOf(entry) > 8) {
            throw new NoSuchElementException();
        }
        int before = outbox.sent;
        dictionary.put(entry, joined(low, high));
        giveWhenChanged();
        return outbox.sent - before;
    }

    public int value(int index, int sub, int i) throws NoSuchElementException {
        int entry = dictionary.find(index, sub);
        if (entry == Dictionary.NONE || i < 0 || i >= Dictionary.sizeOf(entry)) {
            throw new NoSuchElementException();
        }
        return dictionary.byteAt(entry, i);
    }

    public int size(int index, int sub) {
        int entry = dictionary.find(index, sub);
        return entry == Dictionary.NONE ? 0 : Dictionary.sizeOf(entry);
    }

    public int state() {
        return state;
    }

    public boolean busy() {
        return transfer.going;
    }

    public int outs() {
        return outbox.kept;
    }

    public int out(int k, int what) throws IndexOutOfBoundsException {
        if (k < 0 || k >= outbox.kept || what < 0 || what >= Outbox.PARTS) {
            throw new IndexOutOfBoundsException();
        }
        return outbox.part(k, what);
    }

    public int flush() {
        int had = outbox.kept;
        outbox.kept = 0;
        return had;
    }

    private static long joined(int low, int high) {
        return (long) high << 32 | low & 0xFFFFFFFFL;
    }

    private void boot() {
        state = PRE;
        transfer.end();
        syncCount = 0;
        lifeCount = 0;
        outbox.send(LIFE_ID + number, 1, 0);
    }

    private void beat() {
        int life = (int) dictionary.part(Dictionary.LIFE, 0, 2);
        if (life == 0) {
            return;
        }
        lifeCount++;
        if (lifeCount >= life) {
            lifeCount = 0;
            outbox.send(LIFE_ID + number, 1, state);
        }
    }

    private void command(int what, int whom) {
        if (whom != 0 && whom != number) {
            return;
        }
        switch (what) {
            case 1:
                run();
                break;
            case 2:
                state = STOPPED;
                transfer.end();
                break;
            case 128:
                state = PRE;
                break;
            case 129:
                dictionary.resetAll();
                boot();
                break;
            case 130:
                dictionary.resetOwn();
                boot();
                break;
            default:
                break;
        }
    }

    private void run() {
        if (state == RUNNING) {
            return;
        }
        state = RUNNING;
        syncCount = 0;
        given = giving.content();
    }

    private void sync() {
        if (state != RUNNING || giving.count() == 0) {
            return;
        }
        int type = dictionary.byteAt(Dictionary.TYPE, 0);
        if (type == 0) {
            giveIfNew();
        } else if (type <= LAST_SYNC_TYPE) {
            syncCount++;
            if (syncCount >= type) {
                syncCount = 0;
                give();
            }
        }
    }

    private void giveWhenChanged() {
        if (state == RUNNING && giving.count() != 0
                && dictionary.byteAt(Dictionary.TYPE, 0) >= FIRST_EVENT_TYPE) {
            giveIfNew();
        }
    }

    private void giveIfNew() {
        if (giving.content() != given) {
            give();
        }
    }

    private void give() {
        given = giving.content();
        outbox.send(GIVE_ID + number, giving.contentLength(), given);
    }

    private void take(int length, long bytes) {
        if (state != RUNNING || taking.count() == 0) {
            return;
        }
        if (length >= taking.contentLength()) {
            taking.spread(bytes);
        } else {
            int error = dictionary.byteAt(Dictionary.ERROR, 0);
            dictionary.put(Dictionary.ERROR, error | SHORT_FRAME_ERROR);
        }
    }

    private void request(int low, int high) {
        int first = low & 255;
        int address = low >>> 8;
        switch (first >> 5) {
            case 0:
                writeSegment(first, joined(low, high) >>> 8);
                break;
            case 1:
                write(first, address, high);
                break;
            case 2:
                read(address);
                break;
            case 3:
                readSegment(first);
                break;
            case 4:
                transfer.end();
                break;
            default:
                abort(address, NOT_DUE);
                break;
        }
    }

    private void write(int first, int address, int high) {
        transfer.end();
        boolean atOnce = (first & AT_ONCE) != 0;
        int entry = entryAt(address);
        int fault = accessFault(entry, address, Dictionary.WRITABLE);
        if (fault == 0) {
            fault = lengthFault(first, high, Dictionary.sizeOf(entry));
        }
        if (fault == 0) {
            transfer.begin(entry, address, true);
            if (atOnce) {
                transfer.add(high, Dictionary.sizeOf(entry));
                fault = storeFault(entry, transfer.number());
            }
        }
        if (fault != 0) {
            abort(address, fault);
            return;
        }
        if (atOnce) {
            store();
        }
        answer(0x60, address, 0);
    }

    private void writeSegment(int first, long bytes) {
        boolean last = (first & LAST_OR_TOLD) != 0;
        int fault = segmentFault(first, true);
        if (fault == 0 && !transfer.add(bytes, 7 - (first >> 1 & 7))) {
            fault = TOO_MANY_BYTES;
        }
        if (fault == 0 && last) {
            fault = transfer.left() > 0 ? TOO_FEW_BYTES
                    : storeFault(transfer.entry, transfer.number());
        }
        if (fault != 0) {
            abort(transfer.address, fault);
            return;
        }
        if (last) {
            store();
        } else {
            transfer.awaitNext();
        }
        // Bit 4 is answered in its own place, as when a segment is read: 0x20 or 0x30.
        answer(0x20 + (first & TURN), 0, 0);
    }

    private void read(int address) {
        transfer.end();
        int entry = entryAt(address);
        int fault = accessFault(entry, address, Dictionary.READABLE);
        if (fault != 0) {
            abort(address, fault);
            return;
        }
        int size = Dictionary.sizeOf(entry);
        if (size <= 4) {
            answer(0x43 + 4 * (4 - size), address, (int) dictionary.part(entry, 0, size));
        } else {
            transfer.begin(entry, address, false);
            answer(0x41, address, size);
        }
    }

    private void readSegment(int first) {
        int fault = segmentFault(first, false);
        if (fault != 0) {
            abort(transfer.address, fault);
            return;
        }
        int count = Math.min(7, transfer.left());
        long part = dictionary.part(transfer.entry, transfer.done, count);
        int head = (first & TURN) + 2 * (7 - count);
        transfer.done += count;
        if (transfer.left() == 0) {
            head += LAST_OR_TOLD;
            transfer.end();
        } else {
            transfer.awaitNext();
        }
        outbox.send(ANSWER_ID + number, 8, part << 8 | head);
    }

    private void answer(int first, int address, int high) {
        outbox.send(ANSWER_ID + number, 8, joined(address << 8 | first, high));
    }

    private void abort(int address, int code) {
        transfer.end();
        answer(128, address, code);
    }

    /** An address is index and sub as a request and its answer bear them, in bytes 1 .. 3. */
    private int entryAt(int address) {
        return dictionary.find(address & 0xFFFF, address >> 16);
    }

    /** The code to abort with, as for all that are named fault here; 0 when all is well. */
    private int accessFault(int entry, int address, int right) {
        if (entry == Dictionary.NONE) {
            return dictionary.hasIndex(address & 0xFFFF) ? NO_SUB : NO_INDEX;
        }
        if (Dictionary.allows(entry, right)) {
            return 0;
        }
        return right == Dictionary.WRITABLE ? NOT_WRITABLE : NOT_READABLE;
    }

    private static int lengthFault(int first, int high, int size) {
        boolean told = (first & LAST_OR_TOLD) != 0;
        int length = told ? high : size;
        if ((first & AT_ONCE) != 0) {
            length = told ? 4 - (first >> 2 & 3) : Math.min(size, 4);
        }
        if (length > size) {
            return TOO_MANY_BYTES;
        }
        return length < size ? TOO_FEW_BYTES : 0;
    }

    private int segmentFault(int first, boolean writing) {
        if (!transfer.going || transfer.writing != writing) {
            return NOT_DUE;
        }
        return (first & TURN) == transfer.turn ? 0 : WRONG_TURN;
    }

    private int storeFault(int entry, int value) {
        Mapping map = taking.owns(entry) ? taking : giving;
        if (map.owns(entry)) {
            if (state != PRE) {
                return WRONG_STATE;
            }
            return map.isCount(entry) ? map.countFault(value) : map.nameFault(value);
        }
        boolean freeType = value > LAST_SYNC_TYPE && value < FIRST_EVENT_TYPE;
        return entry == Dictionary.TYPE && freeType ? BAD_VALUE : 0;
    }

    private void store() {
        int entry = transfer.entry;
        dictionary.fill(entry, transfer.bytes);
        if (entry == Dictionary.TYPE) {
            syncCount = 0;
        } else if (entry == Dictionary.LIFE) {
            lifeCount = 0;
        }
        transfer.end();
    }

    /** The entries, each known by its row in the table, and the bytes of all of them in one array. */
    private static final class Dictionary {
        static final int NONE = -1;
        static final int READABLE = 1;
        static final int WRITABLE = 2;
        static final int MAPPABLE = 4;

        static final int ERROR = 1;
        static final int LIFE = 2;
        static final int TAKING = 3;
        static final int TYPE = 8;
        static final int GIVING = 9;
        /** The first row with an index from 0x2000 on. */
        static final int FIRST_FREE = 14;
        static final int LONGEST = 20;

        private static final int ROWS = 22;
        private static final int COLUMNS = 5;
        private static final int SUB = 1;
        private static final int SIZE = 2;
        private static final int RIGHTS = 3;
        private static final int START = 4;

        /** Index, sub, size, rights, and where its bytes start. */
        private static final int[] TABLE = {
            0x1000, 0, 4, READABLE, 0,
            0x1001, 0, 1, READABLE | MAPPABLE, 4,
            0x1017, 0, 2, READABLE | WRITABLE, 5,
            0x1600, 0, 1, READABLE | WRITABLE, 7,
            0x1600, 1, 4, READABLE | WRITABLE, 8,
            0x1600, 2, 4, READABLE | WRITABLE, 12,
            0x1600, 3, 4, READABLE | WRITABLE, 16,
            0x1600, 4, 4, READABLE | WRITABLE, 20,
            0x1800, 2, 1, READABLE | WRITABLE, 24,
            0x1A00, 0, 1, READABLE | WRITABLE, 25,
            0x1A00, 1, 4, READABLE | WRITABLE, 26,
            0x1A00, 2, 4, READABLE | WRITABLE, 30,
            0x1A00, 3, 4, READABLE | WRITABLE, 34,
            0x1A00, 4, 4, READABLE | WRITABLE, 38,
            0x2000, 0, 1, READABLE | WRITABLE | MAPPABLE, 42,
            0x2001, 0, 2, READABLE | WRITABLE | MAPPABLE, 43,
            0x2002, 0, 4, READABLE | WRITABLE | MAPPABLE, 45,
            0x2003, 0, 4, READABLE | MAPPABLE, 49,
            0x2004, 0, 12, READABLE | WRITABLE, 53,
            0x2005, 0, 8, READABLE | WRITABLE | MAPPABLE, 65,
            0x2006, 0, 2, WRITABLE | MAPPABLE, 73,
            0x2007, 0, 20, READABLE, 75,
        };

        private static final int OWN_BYTES = 42;
        private static final int ALL_BYTES = 95;

        /** The bytes as at first, a line for each index. */
        private static final int[] FIRST = {
            0x91, 0x01, 0x02, 0x00,
            0,
            0, 0,
            0, 0, 0, 0, 0, 0, 0, 0, 0, 0, 0, 0, 0, 0, 0, 0, 0,
            255,
            0, 0, 0, 0, 0, 0, 0, 0, 0, 0, 0, 0, 0, 0, 0, 0, 0,
            0,
            0, 0,
            0, 0, 0, 0,
            0, 0, 0, 0,
            0, 0, 0, 0, 0, 0, 0, 0, 0, 0, 0, 0,
            0, 0, 0, 0, 0, 0, 0, 0,
            0, 0,
            65, 66, 67, 68, 69, 70, 71, 72, 73, 74, 75, 76, 77, 78, 79, 80, 81, 82, 83, 84,
        };

        private final int[] bytes = new int[ALL_BYTES];

        Dictionary() {
            resetAll();
        }

        void resetAll() {
            System.arraycopy(FIRST, 0, bytes, 0, ALL_BYTES);
        }

        /** Only the entries with an index below 0x2000, which the table has first. */
        void resetOwn() {
            System.arraycopy(FIRST, 0, bytes, 0, OWN_BYTES);
        }

        int find(int index, int sub) {
            for (int entry = 0; entry < ROWS; entry++) {
                int row = entry * COLUMNS;
                if (TABLE[row] == index && TABLE[row + SUB] == sub) {
                    return entry;
                }
            }
            return NONE;
        }

        boolean hasIndex(int index) {
            for (int entry = 0; entry < ROWS; entry++) {
                if (TABLE[entry * COLUMNS] == index) {
                    return true;
                }
            }
            return false;
        }

        /** The entry that a number in a map names, when it has all of these rights. */
        int named(int name, int rights) {
            for (int entry = 0; entry < ROWS; entry++) {
                int row = entry * COLUMNS;
                int own = TABLE[row] * 65536 + TABLE[row + SUB] * 256 + 8 * TABLE[row + SIZE];
                if (own == name) {
                    return (TABLE[row + RIGHTS] & rights) == rights ? entry : NONE;
                }
            }
            return NONE;
        }

        static int sizeOf(int entry) {
            return TABLE[entry * COLUMNS + SIZE];
        }

        static boolean allows(int entry, int right) {
            return (TABLE[entry * COLUMNS + RIGHTS] & right) != 0;
        }

        int byteAt(int entry, int i) {
            return bytes[TABLE[entry * COLUMNS + START] + i];
        }

        /** Up to 8 bytes of an entry, the first one the lowest. */
        long part(int entry, int from, int count) {
            int start = TABLE[entry * COLUMNS + START] + from;
            long all = 0;
            for (int i = 0; i < count; i++) {
                all |= (long) bytes[start + i] << 8 * i;
            }
            return all;
        }

        /** For an entry of at most 8 bytes. */
        void put(int entry, long all) {
            int start = TABLE[entry * COLUMNS + START];
            int size = TABLE[entry * COLUMNS + SIZE];
            for (int i = 0; i < size; i++) {
                bytes[start + i] = (int) (all >>> 8 * i) & 255;
            }
        }

        void fill(int entry, int[] row) {
            System.arraycopy(row, 0, bytes, TABLE[entry * COLUMNS + START], sizeOf(entry));
        }
    }

    /** One of the two maps: its sub 0 is an entry, and subs 1 .. 4 are the four behind that. */
    private static final class Mapping {
        private static final int SUBS = 4;
        private static final int LONGEST_CONTENT = 8;

        private final Dictionary dictionary;
        private final int countEntry;
        private final int rights;

        Mapping(Dictionary dictionary, int countEntry, int right) {
            this.dictionary = dictionary;
            this.countEntry = countEntry;
            this.rights = right | Dictionary.MAPPABLE;
        }

        boolean owns(int entry) {
            return entry >= countEntry && entry <= countEntry + SUBS;
        }

        boolean isCount(int entry) {
            return entry == countEntry;
        }

        int count() {
            return Math.min(SUBS, dictionary.byteAt(countEntry, 0));
        }

        private int target(int sub) {
            return dictionary.named((int) dictionary.part(countEntry + sub, 0, 4), rights);
        }

        int countFault(int count) {
            if (count > SUBS) {
                return BAD_VALUE;
            }
            int length = 0;
            for (int sub = 1; sub <= count; sub++) {
                int entry = target(sub);
                if (entry == Dictionary.NONE) {
                    return NOT_MAPPABLE;
                }
                length += Dictionary.sizeOf(entry);
            }
            return length > LONGEST_CONTENT ? CONTENT_TOO_LONG : 0;
        }

        int nameFault(int name) {
            if (count() != 0) {
                return MAP_IN_USE;
            }
            boolean fits = name == 0 || dictionary.named(name, rights) != Dictionary.NONE;
            return fits ? 0 : NOT_MAPPABLE;
        }

        int contentLength() {
            int count = count();
            int length = 0;
            for (int sub = 1; sub <= count; sub++) {
                int entry = target(sub);
                if (entry != Dictionary.NONE) {
                    length += Dictionary.sizeOf(entry);
                }
            }
            return length;
        }

        long content() {
            int count = count();
            long all = 0;
            int place = 0;
            for (int sub = 1; sub <= count; sub++) {
                int entry = target(sub);
                if (entry != Dictionary.NONE) {
                    int size = Dictionary.sizeOf(entry);
                    all |= dictionary.part(entry, 0, size) << 8 * place;
                    place += size;
                }
            }
            return all;
        }

        void spread(long all) {
            int count = count();
            int place = 0;
            for (int sub = 1; sub <= count; sub++) {
                int entry = target(sub);
                if (entry != Dictionary.NONE) {
                    dictionary.put(entry, all >>> 8 * place);
                    place += Dictionary.sizeOf(entry);
                }
            }
        }
    }

    private static final class Outbox {
        static final int PARTS = 4;
        private static final int ROOM = 32;

        private final int[] parts = new int[ROOM * PARTS];
        private int kept;
        /** Counts those that found no room, too. */
        private int sent;

        void send(int id, int length, long bytes) {
            sent++;
            if (kept >= ROOM) {
                return;
            }
            int start = kept * PARTS;
            parts[start] = id;
            parts[start + 1] = length;
            parts[start + 2] = (int) bytes;
            parts[start + 3] = (int) (bytes >>> 32);
            kept++;
        }

        int part(int k, int what) {
            return parts[k * PARTS + what];
        }
    }

    /** Bytes that come at once go through it as well, so that they are stored in the same way. */
    private static final class Transfer {
        private final int[] bytes = new int[Dictionary.LONGEST];
        private boolean going;
        private boolean writing;
        private int entry;
        /** 0 while no transfer goes on, as an abort then has to say. */
        private int address;
        private int done;
        private int turn;
        private int ticks;

        void begin(int entry, int address, boolean writing) {
            this.entry = entry;
            this.address = address;
            this.writing = writing;
            going = true;
            done = 0;
            turn = 0;
            ticks = 0;
        }

        void end() {
            going = false;
            address = 0;
        }

        void awaitNext() {
            turn = TURN - turn;
            ticks = 0;
        }

        int left() {
            return Dictionary.sizeOf(entry) - done;
        }

        /** Whether the bytes had room. */
        boolean add(long more, int count) {
            if (count > left()) {
                return false;
            }
            for (int i = 0; i < count; i++) {
                bytes[done + i] = (int) (more >>> 8 * i) & 255;
            }
            done += count;
            return true;
        }

        /** The first bytes that came, at most 4 of them, as a number. */
        int number() {
            int all = 0;
            for (int i = 0; i < done && i < 4; i++) {
                all |= bytes[i] << 8 * i;
            }
            return all;
        }
    }
}
