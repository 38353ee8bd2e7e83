import java.util.zip.CRC32;

/** A log under test, with what the tests do to it again and again. */
final class Bench {
    final GroupLog log = new GroupLog();

    /** Feeds so many bytes, counting up from the first one. */
    void fill(int bytes, int from) {
        for (int i = 0; i < bytes; i++) {
            log.feed((from + i) & 255);
        }
    }

    int append(int bytes, int from) {
        fill(bytes, from);
        return log.append();
    }

    int appendAndFlush(int bytes, int from) {
        int record = append(bytes, from);
        log.flush();
        return record;
    }

    int restart() {
        log.cut();
        return log.start();
    }

    /** A log that is off, with these sectors laid from sector 2 on. */
    static Bench laid(int[]... sectors) {
        Bench b = new Bench();
        b.log.cut();
        for (int k = 0; k < sectors.length; k++) {
            b.lay(2 + k, sectors[k]);
        }
        return b;
    }

    /** A log of so many records of one byte each, every one in a sector of its own. */
    static Bench used(int sectors) {
        Bench b = new Bench();
        for (int r = 1; r <= sectors; r++) {
            b.appendAndFlush(1, r);
        }
        return b;
    }

    /** Lays bytes over a sector that has never been written (all 0); the power must be off. */
    void lay(int sector, int[] bytes) {
        for (int i = 0; i < bytes.length; i++) {
            if (bytes[i] != 0) {
                log.poke(sector, i, bytes[i]);
            }
        }
    }

    /** Changes a number of four bytes in a sector; the power must be off. */
    void change(int sector, int i, int from, int to) {
        for (int k = 0; k < 4; k++) {
            int mask = (from ^ to) >>> (24 - 8 * k) & 255;
            if (mask != 0) {
                log.poke(sector, i + k, mask);
            }
        }
    }

    /** Gives a sector the head that is wanted, with its sum; the power must be off. */
    void layHead(int sector, int version, int serial, int record, int place) {
        int[] want = head(version, serial, record, place);
        for (int i = 0; i < 17; i++) {
            int mask = want[i] ^ log.disk(sector, i);
            if (mask != 0) {
                log.poke(sector, i, mask);
            }
        }
    }

    int number(int sector, int i) {
        return log.disk(sector, i) << 24 | log.disk(sector, i + 1) << 16
            | log.disk(sector, i + 2) << 8 | log.disk(sector, i + 3);
    }

    static void setNumber(int[] bytes, int i, int n) {
        for (int k = 0; k < 4; k++) {
            bytes[i + k] = n >>> (24 - 8 * k) & 255;
        }
    }

    static int[] head(int version, int serial, int record, int place) {
        int[] h = new int[17];
        setNumber(h, 0, version);
        setNumber(h, 4, serial);
        setNumber(h, 8, record);
        h[12] = place;
        setNumber(h, 13, sum(h, 0, 13, 13, 13));
        return h;
    }

    static int[] sector(int serial, int many, int begin, int version, int... data) {
        int[] s = new int[64];
        setNumber(s, 0, serial);
        s[4] = many;
        s[5] = begin;
        setNumber(s, 10, version);
        System.arraycopy(data, 0, s, 16, data.length);
        setNumber(s, 6, sum(s, 0, 6, 10, 64));
        return s;
    }

    /** A record's bytes, its data counting up from the first one. */
    static int[] record(int size, int number, int from) {
        int[] r = new int[6 + size];
        r[0] = size >>> 8;
        r[1] = size & 255;
        setNumber(r, 2, number);
        for (int i = 0; i < size; i++) {
            r[6 + i] = (from + i) & 255;
        }
        return r;
    }

    static int[] join(int[]... rows) {
        int length = 0;
        for (int[] row : rows) {
            length += row.length;
        }
        int[] all = new int[length];
        int at = 0;
        for (int[] row : rows) {
            System.arraycopy(row, 0, all, at, row.length);
            at += row.length;
        }
        return all;
    }

    static int[] cutOut(int[] row, int from, int to) {
        return java.util.Arrays.copyOfRange(row, from, to);
    }

    static int sum(int[] bytes, int from, int to, int from2, int to2) {
        CRC32 crc = new CRC32();
        for (int i = from; i < to; i++) {
            crc.update(bytes[i]);
        }
        for (int i = from2; i < to2; i++) {
            crc.update(bytes[i]);
        }
        return (int) crc.getValue();
    }
}
