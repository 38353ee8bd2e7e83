/** Each sentence of "Terms" on the disk, its heads and its log sectors that names a boundary case, with its own test. */
public final class DiskEdgesTest {
    private static final Due due = new Due();

    public static void main(String[] args) {
        sectorsAndBytes();
        zeroAtFirst();
        tornByAPart();
        tornUntilWrittenWhole();
        highestByteFirst();
        sum();
        sumOfAHead();
        sumOfALogSector();
        goodIsNotTorn();
        goodBySum();
        goodByVersion();
        goodByRecord();
        goodByPlace();
        versionsWithoutASign();
        headAtFirst();
        roundBehind63();
        howManyBytes();
        firstBeginInASector();
        versionInASector();
        zeroBehindTheBytes();
        recordOf1And200();
        recordGoesOn();
        frontGoesOn();
        numbersAndSerials();
        due.end();
    }

    private static void sectorsAndBytes() {
        due.by("THE DISK has 64 SECTORS of 64 bytes");
        GroupLog x = new GroupLog();
        due.is("disk(63, 63)", x.disk(63, 63), 0);
        due.is("disk(64, 63)", x.disk(64, 63), -1);
        due.is("disk(63, 64)", x.disk(63, 64), -1);
        due.is("disk(-1, 0)", x.disk(-1, 0), -1);
        due.is("disk(0, -1)", x.disk(0, -1), -1);
    }

    private static void zeroAtFirst() {
        due.by("64 bytes (0 at first)");
        for (int sector = 0; sector < 64; sector++) {
            GroupLog x = new GroupLog();
            for (int i = sector == 0 ? 17 : 0; i < 64; i++) {
                due.is("disk(" + sector + ", " + i + ")", x.disk(sector, i), 0);
            }
            due.is("torn(" + sector + ")", x.torn(sector), false);
        }
    }

    /** Sector 2 is written in part; it had nothing before. */
    private static Bench part(int part) {
        Bench b = new Bench();
        b.append(42, 200);
        b.log.arm(0, part);
        b.log.flush();
        return b;
    }

    private static void tornByAPart() {
        due.by("A sector of which only a part was written is TORN");
        due.is("part 0", part(0).log.torn(2), false);
        due.is("part 1", part(1).log.torn(2), true);
        due.is("part 63", part(63).log.torn(2), true);
        due.is("the one before", part(63).log.torn(1), false);
        due.is("the one behind", part(63).log.torn(3), false);
    }

    private static void tornUntilWrittenWhole() {
        due.by("TORN until it is written whole");
        Bench b = part(30);
        b.log.poke(2, 40, 1);
        due.is("poked", b.log.torn(2), true);
        b.log.start();
        due.is("started", b.log.torn(2), true);
        b.append(1, 1);
        due.is("appended", b.log.torn(2), true);
        b.log.arm(0, 0);
        b.log.flush();
        due.is("nothing of it written", b.log.torn(2), true);
        b.log.start();
        b.append(1, 1);
        b.log.arm(0, 63);
        b.log.flush();
        due.is("a part again", b.log.torn(2), true);
        b.log.start();
        b.appendAndFlush(1, 1);
        due.is("whole", b.log.torn(2), false);
    }

    private static void highestByteFirst() {
        due.by("Numbers in bytes have the highest byte first");
        Bench b = new Bench();
        b.log.cut();
        b.layHead(1, 0x01020304, 0x05060708, 0x090A0B0C, 40);
        due.is("start", b.log.start(), 0);
        due.is("version", b.log.count(9), 0x01020305);
        due.is("serial", b.log.count(5), 0x05060708);
        due.is("record", b.log.first(), 0x090A0B0C);
        b.appendAndFlush(1, 77);
        int[] front = {5, 6, 7, 8, 7, 0};
        int[] rest = {1, 2, 3, 5, 0, 0, 0, 1, 9, 10, 11, 12, 77};
        int[] head = {1, 2, 3, 5, 5, 6, 7, 8, 9, 10, 11, 12, 40};
        for (int i = 0; i < front.length; i++) {
            due.is("disk(40, " + i + ")", b.log.disk(40, i), front[i]);
        }
        for (int i = 0; i < rest.length; i++) {
            due.is("disk(40, " + (10 + i) + ")", b.log.disk(40, 10 + i), rest[i]);
        }
        for (int i = 0; i < head.length; i++) {
            due.is("disk(0, " + i + ")", b.log.disk(0, i), head[i]);
        }
    }

    /** The sum by the document's words, with numbers that have no sign. */
    private static long sumByWords(GroupLog x, int sector, int[] places) {
        long sum = 4294967295L;
        for (int i : places) {
            sum ^= x.disk(sector, i);
            for (int time = 0; time < 8; time++) {
                boolean odd = sum % 2 == 1;
                sum = sum / 2;
                if (odd) {
                    sum ^= 3988292384L;
                }
            }
        }
        return 4294967295L - sum;
    }

    private static int[] places(int from, int to, int from2, int to2) {
        int[] places = new int[to - from + to2 - from2];
        int n = 0;
        for (int i = from; i < to; i++) {
            places[n++] = i;
        }
        for (int i = from2; i < to2; i++) {
            places[n++] = i;
        }
        return places;
    }

    private static void sum() {
        due.by("THE SUM of bytes: 4294967295 at first .. in the end all 32 bits are turned");
        Bench b = new Bench();
        long want = sumByWords(b.log, 0, places(0, 13, 13, 13));
        due.is("of the first head", b.number(0, 13) & 4294967295L, want);
        for (int r = 1; r <= 3; r++) {
            b.appendAndFlush(42, 60 * r);
            want = sumByWords(b.log, 1 + r, places(0, 6, 10, 64));
            due.is("of sector " + (1 + r), b.number(1 + r, 6) & 4294967295L, want);
        }
    }

    private static void sumOfAHead() {
        due.by("13 to 16 the sum of bytes 0 to 12");
        for (int i = 0; i < 64; i++) {
            Bench b = new Bench();
            b.log.checkpoint(1);
            b.log.cut();
            b.log.poke(1, i, 1);
            b.log.start();
            due.is("byte " + i + " changed: version", b.log.count(9), i < 17 ? 2 : 3);
        }
    }

    private static void sumOfALogSector() {
        due.by("6 to 9 the sum of all others (bytes 0 to 5, then 10 to 63)");
        for (int i = 0; i < 64; i++) {
            Bench b = Bench.used(1);
            b.log.cut();
            b.log.poke(2, i, 128);
            due.is("byte " + i + " changed", b.log.start(), 0);
        }
    }

    private static void goodIsNotTorn() {
        due.by("A head is GOOD when it is not torn");
        int[] parts = {1, 13, 16, 17, 40, 63};
        for (int part : parts) {
            Bench b = Bench.used(1);
            b.log.arm(0, part);
            due.is("checkpoint", b.log.checkpoint(2), -2);
            due.is("start by the other one, part " + part, b.log.start(), 1);
            due.is("version, part " + part, b.log.count(9), 2);
        }
        Bench b = new Bench();
        b.log.arm(1, 63);
        b.log.checkpoint(1);
        b.log.checkpoint(1);
        due.is("sector 0 is torn", b.log.torn(0), true);
        b.log.poke(1, 0, 1);
        due.is("no other is good", b.log.start(), -2);
    }

    private static void goodBySum() {
        due.by("A head is GOOD when .. its sum is so");
        for (int i = 0; i < 17; i++) {
            Bench b = new Bench();
            b.log.cut();
            b.log.poke(0, i, 64);
            due.is("byte " + i, b.log.start(), -2);
            b.log.poke(0, i, 64);
            due.is("byte " + i + " mended", b.log.start(), 0);
        }
    }

    /** What a start answers when this is the only head whose sum is so: 0, or OFF. */
    private static int startBy(int version, int serial, int record, int place) {
        Bench b = new Bench();
        b.log.cut();
        b.layHead(0, version, serial, record, place);
        return b.log.start();
    }

    private static void goodByVersion() {
        due.by("A head is GOOD when .. its version is not 0");
        due.is("version 0", startBy(0, 1, 1, 2), -2);
        due.is("version 1", startBy(1, 1, 1, 2), 0);
        due.is("version 2147483648", startBy(0x80000000, 1, 1, 2), 0);
        due.is("version 4294967295", startBy(-1, 1, 1, 2), 0);
    }

    private static void goodByRecord() {
        due.by("A head is GOOD when .. its record 1 .. 1000000000");
        due.is("record 0", startBy(1, 1, 0, 2), -2);
        due.is("record 1", startBy(1, 1, 1, 2), 0);
        due.is("record 1000000000", startBy(1, 1, 1000000000, 2), 0);
        due.is("record 1000000001", startBy(1, 1, 1000000001, 2), -2);
        due.is("record 2147483647", startBy(1, 1, 0x7FFFFFFF, 2), -2);
        due.is("record 2147483648", startBy(1, 1, 0x80000000, 2), -2);
        due.is("record 4294967295", startBy(1, 1, -1, 2), -2);
    }

    private static void goodByPlace() {
        due.by("A head is GOOD when .. its place 2 .. 63");
        int[] wrong = {0, 1, 64, 65, 127, 128, 255};
        for (int place : wrong) {
            due.is("place " + place, startBy(1, 1, 1, place), -2);
        }
        due.is("place 2", startBy(1, 1, 1, 2), 0);
        due.is("place 63", startBy(1, 1, 1, 63), 0);
    }

    private static void versionsWithoutASign() {
        due.by("(Versions are numbers without a sign.)");
        int[][] pairs = {{1, 2, 1}, {2, 1, 0}, {0x7FFFFFFF, 0x80000000, 1}, {0x80000000, 0x7FFFFFFF, 0},
            {1, -1, 1}, {-1, 1, 0}, {-2, -1, 1}, {0xFF, 0x100, 1}};
        for (int[] p : pairs) {
            Bench b = new Bench();
            b.log.cut();
            b.layHead(0, p[0], 5, 100, 20);
            b.layHead(1, p[1], 6, 200, 30);
            b.log.start();
            due.is("versions " + p[0] + " and " + p[1], b.log.first(), p[2] == 0 ? 100 : 200);
        }
    }

    private static void headAtFirst() {
        due.by("At first sector 0 is a head of version 1: serial 1, record 1, place 2");
        int[] want = {0, 0, 0, 1, 0, 0, 0, 1, 0, 0, 0, 1, 2};
        GroupLog x = new GroupLog();
        for (int i = 0; i < want.length; i++) {
            due.is("disk(0, " + i + ")", x.disk(0, i), want[i]);
        }
        x.cut();
        x.poke(0, 3, 1);
        due.is("sector 1 is none", x.start(), -2);
    }

    private static void roundBehind63() {
        due.by("THE LOG goes round in sectors 2 to 63 (2 behind 63)");
        Bench b = Bench.used(61);
        due.is("next", b.log.count(4), 63);
        b.log.checkpoint(61);
        b.append(43, 9);
        due.is("flush", b.log.flush(), 2);
        due.is("the first of both", b.number(63, 0), 62);
        due.is("the second", b.number(2, 0), 63);
        due.is("next", b.log.count(4), 3);
        due.is("the heads stay", b.number(1, 0), 2);
        due.is("the heads stay", b.number(0, 0), 1);
        b.appendAndFlush(1, 1);
        due.is("the third", b.number(3, 0), 64);
        due.is("restart", b.restart(), 3);
    }

    private static void howManyBytes() {
        due.by("4 how many bytes it has (0 .. 48)");
        int[][] sizes = {{1, 7, -1}, {41, 47, -1}, {42, 48, -1}, {43, 48, 1}, {90, 48, 48}};
        for (int[] s : sizes) {
            Bench b = new Bench();
            b.appendAndFlush(s[0], 1);
            due.is("of " + s[0] + ", the first", b.log.disk(2, 4), s[1]);
            due.is("of " + s[0] + ", the second", b.log.disk(3, 4), Math.max(0, s[2]));
            due.is("used by " + s[0], b.log.count(3), s[2] < 0 ? 1 : 2);
        }
    }

    private static void firstBeginInASector() {
        due.by("5 where in these the first record begins that begins in it (255: none does)");
        int[][] firsts = {{42, 0}, {43, 1}, {89, 47}, {90, 255}};
        for (int[] f : firsts) {
            Bench b = new Bench();
            b.append(f[0], 1);
            b.append(90, 2);
            b.append(1, 3);
            b.append(1, 4);
            b.log.flush();
            due.is("behind " + f[0] + ", sector 2", b.log.disk(2, 5), 0);
            due.is("behind " + f[0] + ", sector 3", b.log.disk(3, 5), f[1]);
        }
        Bench b = new Bench();
        b.append(1, 1);
        b.append(1, 2);
        b.log.flush();
        due.is("the first of two", b.log.disk(2, 5), 0);
    }

    private static void versionInASector() {
        due.by("10 to 13 the version of the latest good head when it is written");
        Bench b = Bench.used(1);
        b.log.checkpoint(1);
        b.appendAndFlush(1, 1);
        b.log.arm(0, 17);
        b.log.checkpoint(1);
        b.log.start();
        b.appendAndFlush(1, 1);
        due.is("at first", b.number(2, 10), 1);
        due.is("behind a checkpoint", b.number(3, 10), 2);
        due.is("behind a torn head of version 3, and a start", b.number(4, 10), 3);
    }

    private static void zeroBehindTheBytes() {
        due.by("14 and 15 are 0; from 16 on the bytes (behind them 0)");
        Bench b = new Bench();
        b.appendAndFlush(42, 100);
        b.log.cut();
        b.log.poke(2, 14, 255);
        b.log.poke(2, 15, 255);
        b.log.start();
        b.appendAndFlush(1, 100);
        due.is("written over: its bytes", b.log.disk(2, 4), 7);
        due.is("disk(2, 14)", b.log.disk(2, 14), 0);
        due.is("disk(2, 15)", b.log.disk(2, 15), 0);
        due.is("disk(2, 22)", b.log.disk(2, 22), 100);
        for (int i = 23; i < 64; i++) {
            due.is("disk(2, " + i + ")", b.log.disk(2, i), 0);
        }
    }

    private static void recordOf1And200() {
        due.by("A RECORD: 2 bytes of how many data bytes it has (1 .. 200)");
        int[] sizes = {1, 200};
        for (int size : sizes) {
            Bench b = new Bench();
            b.appendAndFlush(size, 3);
            due.is("high byte of " + size, b.log.disk(2, 16), 0);
            due.is("low byte of " + size, b.log.disk(2, 17), size);
            due.is("restart", b.restart(), 1);
            due.is("size", b.log.size(1), size);
            due.is("its last byte", b.log.at(1, size - 1), (3 + size - 1) & 255);
        }
    }

    private static void recordGoesOn() {
        due.by("it may go on in the next sectors");
        int[][] sizes = {{42, 1}, {43, 2}, {90, 2}, {91, 3}, {138, 3}, {139, 4}, {186, 4}, {187, 5}, {200, 5}};
        for (int[] s : sizes) {
            Bench b = new Bench();
            b.append(s[0], 11);
            due.is("sectors of " + s[0], b.log.flush(), s[1]);
            due.is("restart", b.restart(), 1);
            due.is("used", b.log.count(3), s[1]);
            for (int i = 0; i < s[0]; i++) {
                due.is("at(1, " + i + ") of " + s[0], b.log.at(1, i), (11 + i) & 255);
            }
        }
    }

    /** The second record begins with only so many bytes left in the first sector. */
    private static void frontGoesOn() {
        due.by("2 bytes of how many data bytes it has, 4 of its number; it may go on in the next sectors");
        for (int left = 1; left <= 7; left++) {
            Bench b = new Bench();
            b.append(42 - left, 1);
            b.append(40, 2);
            due.is("flush", b.log.flush(), 2);
            due.is("size, " + left + " left", b.log.size(2), 40);
            due.is("at, " + left + " left", b.log.at(2, 0), 2);
            due.is("restart, " + left + " left", b.restart(), 2);
            due.is("size, " + left + " left", b.log.size(2), 40);
            due.is("at, " + left + " left", b.log.at(2, 0), 2);
            due.is("last, " + left + " left", b.log.at(2, 39), 41);
            due.is("checkpoint, " + left + " left", b.log.checkpoint(2), 0);
        }
    }

    private static void numbersAndSerials() {
        due.by("Records have numbers 1, 2, 3 ..; serials grow by 1 with each sector");
        Bench b = new Bench();
        due.is("first", b.append(43, 1), 1);
        due.is("second", b.append(1, 1), 2);
        b.log.flush();
        b.log.checkpoint(3);
        due.is("third, behind a checkpoint", b.append(1, 1), 3);
        b.log.flush();
        b.restart();
        due.is("fourth, behind a start", b.append(1, 1), 4);
        b.log.flush();
        for (int k = 0; k < 4; k++) {
            due.is("serial of sector " + (2 + k), b.number(2 + k, 0), 1 + k);
        }
    }
}
