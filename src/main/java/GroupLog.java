/**
 * A log on a small disk: records are gathered in memory and written together, in sectors with sums,
 * so that a start behind a loss of power finds all that was told to be safe.
 */
public final class GroupLog {
    public static final int NONE = -1, OFF = -2;

    private static final int SECTORS = 64, SECTOR_BYTES = 64;
    private static final int LOG_PLACE = 2, LOG_SECTORS = 62;
    private static final int DATA_AT = 16, DATA_BYTES = 48;
    private static final int NO_BEGIN = 255;
    private static final int FRONT_BYTES = 6, RECORD_BYTES = 200;
    private static final int HIGHEST_RECORD = 1000000000;
    private static final int FLUSH_BYTES = 400;
    private static final int QUEUE_BYTES = FLUSH_BYTES + FRONT_BYTES + RECORD_BYTES;
    private static final int HIGHEST_TICKS = 1000, HIGHEST_STEPS = 100;
    private static final int SUM_MASK = 0xEDB88320;
    // No more than 62 * 48 / 7 = 425 records are there at once, so their lowest 9 bits never meet.
    private static final int BEGIN_SLOTS = 512;

    private final Store store;
    private final Queue queue;
    private final Log log;
    private final Reader reader;
    private final Sector draft;
    private final int[] tape;
    private int tapeBytes;
    private int delayTicks;
    private int flushes;
    private boolean on;

    public GroupLog() {
        store = new Store();
        queue = new Queue();
        log = new Log();
        reader = new Reader();
        draft = new Sector();
        tape = new int[RECORD_BYTES];
        tapeBytes = 0;
        delayTicks = 10;
        flushes = 0;
        on = true;
        // The first head is there from the beginning: it is no step.
        store.sector(0).makeHead(1, 1, 1, LOG_PLACE);
        log.openAt(LOG_PLACE, 1, 1);
    }

    public boolean delay(int ticks) {
        if (!on || !isTicks(ticks)) {
            return false;
        }
        delayTicks = ticks;
        return true;
    }

    public boolean feed(int b) {
        if (b < 0 || b > 255 || tapeBytes < 0 || tapeBytes >= tape.length) {
            return false;
        }
        tape[tapeBytes] = b;
        tapeBytes++;
        return true;
    }

    public int append() {
        if (!on) {
            return OFF;
        }
        if (tapeBytes == 0 || queue.sectorsWith(FRONT_BYTES + tapeBytes) > LOG_SECTORS - log.used) {
            return NONE;
        }
        int record = log.lastSafe + queue.records + 1;
        queue.add(record, tape, tapeBytes);
        tapeBytes = 0;
        if (queue.length > FLUSH_BYTES) {
            writeQueue();
        }
        return record;
    }

    public int flush() {
        return on ? writeQueue() : OFF;
    }

    public int tick(int ticks) {
        if (!on) {
            return OFF;
        }
        if (!isTicks(ticks)) {
            return NONE;
        }
        if (queue.records == 0) {
            return 0;
        }
        // Nothing is appended while ticks pass, so one flush at the most can come.
        queue.waited += ticks;
        if (queue.waited < delayTicks) {
            return 0;
        }
        writeQueue();
        return 1;
    }

    public int checkpoint(int record) {
        if (!on) {
            return OFF;
        }
        if (record < log.keptFrom || record > log.lastSafe + 1) {
            return NONE;
        }
        int place = log.placeOf(record);
        int earliest = log.firstBeginningWith(record);
        int serial = record > log.lastSafe ? log.nextSerial : store.sector(place).serial();
        if (!writeHead(serial, earliest, place)) {
            return OFF;
        }
        return log.giveUpBefore(record, earliest, place);
    }

    public boolean cut() {
        if (!on) {
            return false;
        }
        powerGoes();
        return true;
    }

    public boolean arm(int n, int part) {
        if (!on || n < 0 || n > HIGHEST_STEPS || part < 0 || part >= SECTOR_BYTES) {
            return false;
        }
        store.stepsLeft = n;
        store.part = part;
        return true;
    }

    public int start() {
        if (on) {
            return NONE;
        }
        int latest = store.latestHead();
        if (latest == NONE) {
            return OFF;
        }
        on = true;
        Sector head = store.sector(latest);
        log.openAt(head.headPlace(), head.headSerial(), head.headRecord());
        reader.readInto(log, store);
        boolean written = writeHead(head.headSerial(), head.headRecord(), head.headPlace());
        return written ? log.lastSafe - log.firstRecord + 1 : OFF;
    }

    public int first() {
        return on ? log.firstRecord : OFF;
    }

    public int safe() {
        return on ? log.lastSafe : OFF;
    }

    public int size(int record) {
        if (!on) {
            return OFF;
        }
        return log.has(record) ? log.dataBytes(store, record) : NONE;
    }

    public int at(int record, int i) {
        if (!on) {
            return OFF;
        }
        if (!log.has(record) || i < 0 || i >= log.dataBytes(store, record)) {
            return NONE;
        }
        return log.byteOf(store, record, FRONT_BYTES + i);
    }

    public int disk(int sector, int i) {
        return isByte(sector, i) ? store.sector(sector).get(i) : NONE;
    }

    public boolean poke(int sector, int i, int mask) {
        if (on || !isByte(sector, i) || mask < 1 || mask > 255) {
            return false;
        }
        Sector s = store.sector(sector);
        s.set(i, s.get(i) ^ mask);
        return true;
    }

    public boolean torn(int sector) {
        return isByte(sector, 0) && store.sector(sector).isTorn;
    }

    public int count(int what) {
        switch (what) {
            case 0:
                return on ? 1 : 0;
            case 6:
                return store.steps;
            case 7:
                return flushes;
            default:
                if (what < 0 || what > 9) {
                    return NONE;
                }
                return on ? countWhileOn(what) : OFF;
        }
    }

    private int countWhileOn(int what) {
        switch (what) {
            case 1:
                return queue.records;
            case 2:
                return queue.length;
            case 3:
                return log.used;
            case 4:
                return log.nextPlace;
            case 5:
                return log.nextSerial;
            case 8:
                return queue.records == 0 ? NONE : queue.waited;
            default:
                return store.headVersion();
        }
    }

    private static boolean isTicks(int ticks) {
        return ticks >= 1 && ticks <= HIGHEST_TICKS;
    }

    private static boolean isByte(int sector, int i) {
        return sector >= 0 && sector < SECTORS && i >= 0 && i < SECTOR_BYTES;
    }

    private static boolean isBelow(int version, int other) {
        return (version & 0xFFFFFFFFL) < (other & 0xFFFFFFFFL);
    }

    private static int placeBehind(int place, int sectors) {
        return LOG_PLACE + Math.floorMod(place - LOG_PLACE + sectors, LOG_SECTORS);
    }

    private void powerGoes() {
        on = false;
        queue.empty();
        // What was armed is the going of this power; the next one comes unarmed.
        store.stepsLeft = NONE;
    }

    private boolean writeDraft(int place) {
        boolean whole = store.write(place, draft);
        if (!whole) {
            powerGoes();
        }
        return whole;
    }

    private boolean writeHead(int serial, int record, int place) {
        int version = store.headVersion() + 1;
        int other = store.latestHead() == 0 ? 1 : 0;
        draft.makeHead(version, serial, record, place);
        return writeDraft(other);
    }

    private int writeQueue() {
        int place = log.nextPlace;
        int sectors = queue.sectorsWith(0);
        int version = store.headVersion();
        int whole = 0;
        for (int k = 0; k < sectors && on; k++) {
            queue.fill(draft, k);
            draft.sealLog(log.nextSerial, version);
            if (writeDraft(log.nextPlace)) {
                log.advance(1);
                whole++;
            }
        }
        if (whole > 0) {
            flushes++;
        }
        if (on) {
            queue.tellTo(log, place);
            queue.empty();
        }
        return whole;
    }

    /** 64 bytes, and what they mean as a head or as a sector of the log. */
    private static final class Sector {
        private final int[] bytes;
        private boolean isTorn;

        Sector() {
            bytes = new int[SECTOR_BYTES];
            isTorn = false;
        }

        int get(int i) {
            return i >= 0 && i < bytes.length ? bytes[i] : 0;
        }

        void set(int i, int b) {
            if (i >= 0 && i < bytes.length) {
                bytes[i] = b & 255;
            }
        }

        int number(int i) {
            if (i < 0 || i > bytes.length - 4) {
                return 0;
            }
            return bytes[i] << 24 | bytes[i + 1] << 16 | bytes[i + 2] << 8 | bytes[i + 3];
        }

        void setNumber(int i, int n) {
            set(i, n >>> 24);
            set(i + 1, n >>> 16);
            set(i + 2, n >>> 8);
            set(i + 3, n);
        }

        void clear() {
            for (int i = 0; i < bytes.length; i++) {
                bytes[i] = 0;
            }
        }

        void takeWhole(Sector from) {
            takeBytes(from, SECTOR_BYTES);
            isTorn = false;
        }

        void takePart(Sector from, int part) {
            takeBytes(from, part);
            // A step of no bytes leaves the sector as it was, torn or not.
            isTorn = isTorn || part > 0;
        }

        private void takeBytes(Sector from, int many) {
            for (int i = 0; i < many && i < SECTOR_BYTES; i++) {
                set(i, from.get(i));
            }
        }

        private int sumOver(int sum, int from, int to) {
            int s = sum;
            for (int i = from; i >= 0 && i < to && i < bytes.length; i++) {
                s ^= bytes[i];
                for (int bit = 0; bit < 8; bit++) {
                    s = (s & 1) == 1 ? s >>> 1 ^ SUM_MASK : s >>> 1;
                }
            }
            return s;
        }

        private int headSum() {
            return ~sumOver(-1, 0, 13);
        }

        private int logSum() {
            return ~sumOver(sumOver(-1, 0, 6), 10, SECTOR_BYTES);
        }

        void makeHead(int version, int serial, int record, int place) {
            clear();
            setNumber(0, version);
            setNumber(4, serial);
            setNumber(8, record);
            set(12, place);
            setNumber(13, headSum());
        }

        boolean isGoodHead() {
            return !isTorn && number(13) == headSum() && headVersion() != 0
                && headRecord() >= 1 && headRecord() <= HIGHEST_RECORD
                && headPlace() >= LOG_PLACE && headPlace() < SECTORS;
        }

        int headVersion() {
            return number(0);
        }

        int headSerial() {
            return number(4);
        }

        int headRecord() {
            return number(8);
        }

        int headPlace() {
            return get(12);
        }

        /** The rest of a log sector round its bytes; its sum comes last, for it is over all the others. */
        void sealLog(int serial, int version) {
            setNumber(0, serial);
            setNumber(10, version);
            setNumber(6, logSum());
        }

        boolean isSoundLog() {
            return !isTorn && logBytes() <= DATA_BYTES && number(6) == logSum();
        }

        int serial() {
            return number(0);
        }

        int logBytes() {
            return get(4);
        }

        int logBegin() {
            return get(5);
        }

        int logVersion() {
            return number(10);
        }

        int logByte(int i) {
            return get(DATA_AT + i);
        }
    }

    /** The disk, and the power that may go in a step on it. */
    private static final class Store {
        private final Sector[] sectors;
        private int steps;
        private int stepsLeft;
        private int part;

        Store() {
            sectors = new Sector[SECTORS];
            for (int i = 0; i < sectors.length; i++) {
                sectors[i] = new Sector();
            }
            steps = 0;
            stepsLeft = NONE;
            part = 0;
        }

        Sector sector(int place) {
            return sectors[place >= 0 && place < sectors.length ? place : 0];
        }

        /** Whether the step was done whole; if not, the power is to go. */
        boolean write(int place, Sector from) {
            if (stepsLeft == 0) {
                sector(place).takePart(from, part);
                return false;
            }
            if (stepsLeft > 0) {
                stepsLeft--;
            }
            sector(place).takeWhole(from);
            steps++;
            return true;
        }

        int latestHead() {
            boolean zero = sector(0).isGoodHead();
            boolean one = sector(1).isGoodHead();
            if (zero && one) {
                return isBelow(sector(0).headVersion(), sector(1).headVersion()) ? 1 : 0;
            }
            return zero ? 0 : one ? 1 : NONE;
        }

        int headVersion() {
            int latest = latestHead();
            return latest == NONE ? 0 : sector(latest).headVersion();
        }
    }

    /** The records that wait, as the bytes that a flush will write. */
    private static final class Queue {
        private final int[] bytes;
        private int length;
        private int records;
        private int waited;

        Queue() {
            bytes = new int[QUEUE_BYTES];
            length = 0;
            records = 0;
            waited = 0;
        }

        void empty() {
            length = 0;
            records = 0;
            waited = 0;
        }

        int sectorsWith(int more) {
            return (length + more + DATA_BYTES - 1) / DATA_BYTES;
        }

        void add(int record, int[] data, int many) {
            put(many >>> 8);
            put(many);
            put(record >>> 24);
            put(record >>> 16);
            put(record >>> 8);
            put(record);
            for (int i = 0; i < many && i < data.length; i++) {
                put(data[i]);
            }
            records++;
        }

        private void put(int b) {
            if (length >= 0 && length < bytes.length) {
                bytes[length] = b & 255;
                length++;
            }
        }

        private int get(int i) {
            return i >= 0 && i < bytes.length ? bytes[i] : 0;
        }

        private int behindRecordAt(int i) {
            return i + FRONT_BYTES + (get(i) << 8 | get(i + 1));
        }

        private int firstBeginFrom(int from) {
            int begin = 0;
            for (int r = 0; r < records && begin < from; r++) {
                begin = behindRecordAt(begin);
            }
            return begin;
        }

        /** The bytes of the k-th sector of this flush, and what tells of them. */
        void fill(Sector to, int k) {
            int from = k * DATA_BYTES;
            int many = Math.min(DATA_BYTES, length - from);
            int begin = firstBeginFrom(from) - from;
            to.clear();
            to.set(4, many);
            to.set(5, begin < many ? begin : NO_BEGIN);
            for (int i = 0; i < many; i++) {
                to.set(DATA_AT + i, get(from + i));
            }
        }

        void tellTo(Log log, int place) {
            int begin = 0;
            for (int r = 0; r < records; r++) {
                log.addSafe(placeBehind(place, begin / DATA_BYTES), begin % DATA_BYTES);
                begin = behindRecordAt(begin);
            }
        }
    }

    /** Which sectors are used, and where in them the safe records begin. */
    private static final class Log {
        private final int[] begins;
        private int firstRecord;
        // All before this one may go, though some may still be there, in the sector where it begins.
        private int keptFrom;
        private int lastSafe;
        private int firstPlace;
        private int used;
        private int nextPlace;
        private int nextSerial;

        Log() {
            begins = new int[BEGIN_SLOTS];
            openAt(LOG_PLACE, 1, 1);
        }

        void openAt(int place, int serial, int record) {
            firstRecord = record;
            keptFrom = record;
            lastSafe = record - 1;
            firstPlace = place;
            used = 0;
            nextPlace = place;
            nextSerial = serial;
        }

        void advance(int sectors) {
            used += sectors;
            nextPlace = placeBehind(nextPlace, sectors);
            nextSerial += sectors;
        }

        void addSafe(int place, int offset) {
            lastSafe++;
            begins[slotOf(lastSafe)] = place * SECTOR_BYTES + offset;
        }

        boolean has(int record) {
            return record >= firstRecord && record <= lastSafe;
        }

        private static int slotOf(int record) {
            return record & (BEGIN_SLOTS - 1);
        }

        private int beginOf(int record) {
            return begins[slotOf(record)];
        }

        int placeOf(int record) {
            return record > lastSafe ? nextPlace : beginOf(record) / SECTOR_BYTES;
        }

        /** A head tells of a sector, so it needs the first record that begins where this one does. */
        int firstBeginningWith(int record) {
            if (!has(record)) {
                return record;
            }
            int earliest = record;
            for (int k = 0; k < BEGIN_SLOTS && has(earliest - 1); k++) {
                if (placeOf(earliest - 1) != placeOf(record)) {
                    break;
                }
                earliest--;
            }
            return earliest;
        }

        /** How many sectors are not used any more. */
        int giveUpBefore(int record, int earliest, int place) {
            // In a full log the next place is the first one too, so the places can't tell it.
            int freed = record > lastSafe ? used : Math.floorMod(place - firstPlace, LOG_SECTORS);
            used -= freed;
            firstPlace = place;
            firstRecord = earliest;
            keptFrom = record;
            return freed;
        }

        int dataBytes(Store store, int record) {
            return byteOf(store, record, 0) << 8 | byteOf(store, record, 1);
        }

        int byteOf(Store store, int record, int i) {
            int place = placeOf(record);
            int offset = beginOf(record) % SECTOR_BYTES + i;
            for (int k = 0; k < LOG_SECTORS; k++) {
                Sector sector = store.sector(place);
                if (offset < sector.logBytes()) {
                    return sector.logByte(offset);
                }
                offset -= sector.logBytes();
                place = placeBehind(place, 1);
            }
            return 0;
        }
    }

    /** Reads the log at a start. */
    private static final class Reader {
        private final int[] front;
        // Bytes that are there of the record that is begun and not whole; 0: none is.
        private int have;
        private int beginPlace;
        private int beginOffset;
        private boolean ended;

        Reader() {
            front = new int[FRONT_BYTES];
            have = 0;
            beginPlace = LOG_PLACE;
            beginOffset = 0;
            ended = false;
        }

        void readInto(Log log, Store store) {
            int place = log.nextPlace;
            int serial = log.nextSerial;
            int version = 0;
            have = 0;
            ended = false;
            for (int k = 0; k < LOG_SECTORS && !ended; k++) {
                Sector sector = store.sector(place);
                boolean next = sector.isSoundLog() && sector.serial() == serial
                    && !isBelow(sector.logVersion(), version);
                if (!next || !fits(sector, k == 0)) {
                    return;
                }
                if (takeRecords(log, sector, place)) {
                    log.advance(k + 1 - log.used);
                }
                version = sector.logVersion();
                place = placeBehind(place, 1);
                serial++;
            }
        }

        private boolean fits(Sector sector, boolean isFirst) {
            int begin = sector.logBegin();
            if (isFirst) {
                return begin < sector.logBytes();
            }
            if (have == 0 || begin == 0) {
                return begin == 0;
            }
            int lacks = lackingBefore(sector);
            return begin == (lacks < sector.logBytes() ? lacks : NO_BEGIN);
        }

        private int lackingBefore(Sector sector) {
            int inSector = sector.logBytes() > 0 ? sector.logByte(0) : 0;
            int low = have > 1 ? front[1] : inSector;
            return FRONT_BYTES + (front[0] << 8 | low) - have;
        }

        /** Whether a record became whole in this sector. */
        private boolean takeRecords(Log log, Sector sector, int place) {
            int before = log.lastSafe;
            // In the first sector this leaves out what stands before; later a begin at 0 leaves out what was begun.
            boolean anew = have == 0 || sector.logBegin() == 0;
            have = anew ? 0 : have;
            int from = anew ? sector.logBegin() : 0;
            for (int i = from; i < sector.logBytes() && !ended; i++) {
                takeByte(log, sector.logByte(i), place, i);
            }
            return log.lastSafe > before;
        }

        private void takeByte(Log log, int b, int place, int offset) {
            if (have == 0) {
                beginPlace = place;
                beginOffset = offset;
            }
            if (have >= 0 && have < front.length) {
                front[have] = b;
            }
            have++;
            if (have == FRONT_BYTES && !isNext(log)) {
                ended = true;
            } else if (have > FRONT_BYTES && have == FRONT_BYTES + frontBytes()) {
                log.addSafe(beginPlace, beginOffset);
                have = 0;
            }
        }

        private boolean isNext(Log log) {
            int record = front[2] << 24 | front[3] << 16 | front[4] << 8 | front[5];
            return record == log.lastSafe + 1 && frontBytes() >= 1 && frontBytes() <= RECORD_BYTES;
        }

        private int frontBytes() {
            return front[0] << 8 | front[1];
        }
    }
}
