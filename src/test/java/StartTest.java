/** Promise 10: start; which head it takes, which sectors it reads, which records it tells. */
public final class StartTest {
    private static final Due due = new Due();

    public static void main(String[] args) {
        ordinary();
        wholeRecordsOfATornFlush();
        begunRecordIsLeftOut();
        oldSectorsBehindAreNotRead();
        headIsChosen();
        headIsGood();
        versionsHaveNoSign();
        noGoodHead();
        sectorsAreSound();
        firstSector();
        versionOfSectors();
        serialsGoRound();
        recordNumbersAndSizes();
        fitOfTheBegun();
        fitWithoutItsSecondByte();
        fitByAWrongSize();
        fitOfEmptySectors();
        fitWhereNoneIsBegun();
        shortSectors();
        onceRound();
        due.end();
    }

    private static void ordinary() {
        Bench b = new Bench();
        due.is("start while on", b.log.start(), -1);
        b.log.cut();
        due.is("start of an empty log", b.log.start(), 0);
        due.is("version", b.log.count(9), 2);
        b.appendAndFlush(60, 7);
        b.append(1, 1);
        due.is("restart", b.restart(), 1);
        due.is("version", b.log.count(9), 3);
        due.is("used", b.log.count(3), 2);
        due.is("next sector", b.log.count(4), 4);
        due.is("next serial", b.log.count(5), 3);
        due.is("steps", b.log.count(6), 4);
        due.is("next number", b.append(1, 1), 2);
    }

    /** Records 1 to 3 of 36 bytes each: sectors end in 2 (1), 3 (2), 4 (3). */
    private static Bench torn(int steps, int part) {
        Bench b = new Bench();
        b.append(30, 1);
        b.append(30, 2);
        b.append(30, 3);
        b.log.arm(steps, part);
        b.log.flush();
        return b;
    }

    private static void wholeRecordsOfATornFlush() {
        for (int steps = 0; steps < 3; steps++) {
            Bench b = torn(steps, 40);
            due.is("start, " + steps, b.log.start(), steps);
            due.is("safe, " + steps, b.log.safe(), steps);
            due.is("used, " + steps, b.log.count(3), steps);
            due.is("next, " + steps, b.log.count(4), 2 + steps);
            due.is("serial, " + steps, b.log.count(5), 1 + steps);
            due.is("flushes, " + steps, b.log.count(7), steps == 0 ? 0 : 1);
        }
    }

    private static void begunRecordIsLeftOut() {
        Bench b = torn(2, 40);
        due.is("start", b.log.start(), 2);
        due.is("record 3 comes anew", b.appendAndFlush(5, 200), 3);
        due.is("restart", b.restart(), 3);
        due.is("its size", b.log.size(3), 5);
        due.is("its bytes", b.log.at(3, 0), 200);
        due.is("checkpoint(3)", b.log.checkpoint(3), 2);
        due.is("restart", b.restart(), 1);
        due.is("its bytes", b.log.at(3, 4), 204);
    }

    /** What was written before the last start has the next serial and number, but the version of an earlier head. */
    private static void oldSectorsBehindAreNotRead() {
        Bench b = new Bench();
        b.appendAndFlush(20, 1);
        b.appendAndFlush(20, 2);
        b.log.cut();
        b.log.poke(2, 20, 1);
        due.is("the first sector is lost", b.log.start(), 0);
        due.is("number", b.appendAndFlush(42, 9), 1);
        due.is("restart", b.restart(), 1);
        due.is("next sector", b.log.count(4), 3);
    }

    private static void headIsChosen() {
        Bench b = new Bench();
        b.appendAndFlush(1, 1);
        b.log.checkpoint(2);
        b.log.cut();
        b.log.poke(1, 20, 1);
        due.is("a byte behind the head is nothing", b.log.start(), 0);
        due.is("head of version 3", b.number(0, 0), 3);
        b.log.cut();
        b.log.poke(0, 7, 1);
        due.is("by the older head", b.log.start(), 0);
        due.is("written into the other one", b.number(0, 0), 3);
        due.is("the taken one stays", b.number(1, 0), 2);

        Bench c = new Bench();
        c.appendAndFlush(1, 1);
        c.log.checkpoint(2);
        c.log.cut();
        c.log.poke(1, 13, 128);
        due.is("the first head has record 1", c.log.start(), 1);
        due.is("first", c.log.first(), 1);
        due.is("its version", c.log.count(9), 2);
        due.is("laid anew", c.number(1, 8), 1);
    }

    private static void headIsGood() {
        int[][] heads = {{0, 1, 1, 2}, {5, 1, 0, 2}, {5, 1, -1, 2}, {5, 1, 1000000001, 2}, {5, 1, 1, 1},
            {5, 1, 1, 0}, {5, 1, 1, 64}, {5, 1, 1, 255}};
        for (int[] h : heads) {
            Bench b = new Bench();
            b.appendAndFlush(1, 1);
            b.log.cut();
            b.layHead(1, h[0], h[1], h[2], h[3]);
            due.is("no good head, record " + h[2] + ", place " + h[3], b.log.start(), 1);
            due.is("its version", b.log.count(9), 2);
        }
        int[][] good = {{5, 1, 1000000000, 63}, {5, -1, 1, 63}, {5, 0, 1, 63}};
        for (int[] h : good) {
            Bench b = new Bench();
            b.appendAndFlush(1, 1);
            b.log.cut();
            b.layHead(1, h[0], h[1], h[2], h[3]);
            due.is("a good head", b.log.start(), 0);
            due.is("its version", b.log.count(9), 6);
            due.is("first", b.log.first(), h[2]);
            due.is("safe", b.log.safe(), h[2] - 1);
            due.is("next sector", b.log.count(4), 63);
            due.is("next serial", b.log.count(5), h[1]);
            due.is("append", b.appendAndFlush(60, 1), h[2]);
            due.is("restart", b.restart(), 1);
            due.is("serial", b.log.count(5), h[1] + 2);
            due.is("next sector", b.log.count(4), 3);
        }
    }

    private static void versionsHaveNoSign() {
        Bench b = new Bench();
        b.appendAndFlush(1, 1);
        b.log.cut();
        b.layHead(1, 0x80000000, 7, 9, 30);
        due.is("start", b.log.start(), 0);
        due.is("first", b.log.first(), 9);
        due.is("version", b.log.count(9), 0x80000001);
        due.is("it went into 0", b.number(0, 0), 0x80000001);
        due.is("record 9", b.appendAndFlush(1, 1), 9);
        due.is("restart", b.restart(), 1);
    }

    private static void noGoodHead() {
        Bench b = new Bench();
        b.appendAndFlush(1, 1);
        b.log.cut();
        b.log.poke(0, 16, 1);
        due.is("start", b.log.start(), -2);
        due.is("off", b.log.count(0), 0);
        due.is("no step", b.log.count(6), 1);
        b.layHead(1, 0, 1, 1, 2);
        due.is("a head of version 0 is none", b.log.start(), -2);
        b.log.poke(0, 16, 1);
        due.is("mended", b.log.start(), 1);
    }

    private static void sectorsAreSound() {
        for (int i = 0; i < 64; i++) {
            Bench b = new Bench();
            b.appendAndFlush(1, 1);
            b.appendAndFlush(1, 2);
            b.appendAndFlush(1, 3);
            b.log.cut();
            b.log.poke(3, i, 1);
            due.is("byte " + i, b.log.start(), 1);
            due.is("next, byte " + i, b.log.count(4), 3);
        }
        Bench b = new Bench();
        b.log.cut();
        int[] r = Bench.record(42, 1, 1);
        b.lay(2, Bench.sector(1, 48, 0, 1, r));
        due.is("48 bytes", b.log.start(), 1);
        Bench c = new Bench();
        c.log.cut();
        c.lay(2, Bench.sector(1, 49, 0, 1, r));
        due.is("49 bytes", c.log.start(), 0);
    }

    private static void firstSector() {
        int[] r = Bench.record(4, 1, 1);
        int[][] places = {{0, 1}, {3, 1}, {12, 0}, {255, 0}, {13, 0}};
        for (int[] p : places) {
            Bench b = new Bench();
            b.log.cut();
            int many = Math.min(p[0], 3) + 10;
            int[] data = Bench.join(new int[Math.min(p[0], 3)], r);
            b.lay(2, Bench.sector(1, many, p[0], 1, data));
            due.is("first begins at " + p[0], b.log.start(), p[1]);
            due.is("used", b.log.count(3), p[1]);
        }
        Bench b = new Bench();
        b.log.cut();
        b.lay(2, Bench.sector(1, 0, 0, 1));
        b.lay(3, Bench.sector(2, 10, 0, 1, r));
        due.is("first one is empty", b.log.start(), 0);
    }

    private static void versionOfSectors() {
        int[][] versions = {{1, 1, 2}, {1, 9, 2}, {9, 1, 1}, {0x7fffffff, 0x80000000, 2},
            {0x80000000, 0x7fffffff, 1}, {0, 0, 2}};
        for (int[] v : versions) {
            Bench b = new Bench();
            b.log.cut();
            b.lay(2, Bench.sector(1, 8, 0, v[0], Bench.record(2, 1, 1)));
            b.lay(3, Bench.sector(2, 8, 0, v[1], Bench.record(2, 2, 1)));
            due.is("versions " + v[0] + ", " + v[1], b.log.start(), v[2]);
        }
    }

    private static void serialsGoRound() {
        Bench b = new Bench();
        b.log.cut();
        b.layHead(0, 3, -1, 1, 63);
        b.lay(63, Bench.sector(-1, 8, 0, 1, Bench.record(2, 1, 1)));
        b.lay(2, Bench.sector(0, 8, 0, 1, Bench.record(2, 2, 1)));
        b.lay(3, Bench.sector(2, 8, 0, 1, Bench.record(2, 3, 1)));
        due.is("start", b.log.start(), 2);
        due.is("serial", b.log.count(5), 1);
        due.is("next sector", b.log.count(4), 3);
    }

    private static void recordNumbersAndSizes() {
        int[][] records = {{2, 1, 1}, {2, 2, 0}, {2, 0, 0}, {0, 1, 0}, {36, 1, 1}};
        for (int[] r : records) {
            Bench b = new Bench();
            b.log.cut();
            int[] data = Bench.record(r[0], r[1], 1);
            b.lay(2, Bench.sector(1, data.length, 0, 1, data));
            due.is("size " + r[0] + ", number " + r[1], b.log.start(), r[2]);
        }
        Bench e = new Bench();
        e.log.cut();
        int[] empty = Bench.join(Bench.record(0, 1, 1), Bench.record(2, 1, 1));
        e.lay(2, Bench.sector(1, empty.length, 0, 1, empty));
        e.lay(3, Bench.sector(2, 8, 0, 1, Bench.record(2, 1, 1)));
        due.is("none behind a size of 0", e.log.start(), 0);
        int[][] longest = {{200, 1}, {201, 0}};
        for (int[] l : longest) {
            Bench b = new Bench();
            b.log.cut();
            int[] data = Bench.record(l[0], 1, 1);
            for (int k = 0; k * 48 < data.length; k++) {
                int[] part = Bench.cutOut(data, k * 48, Math.min(data.length, k * 48 + 48));
                b.lay(2 + k, Bench.sector(1 + k, part.length, k == 0 ? 0 : 255, 1, part));
            }
            due.is("size " + l[0], b.log.start(), l[1]);
        }
        Bench b = new Bench();
        b.log.cut();
        int[] data = Bench.join(Bench.record(2, 1, 1), Bench.record(2, 3, 1), Bench.record(2, 2, 1));
        b.lay(2, Bench.sector(1, data.length, 0, 1, data));
        b.lay(3, Bench.sector(2, 8, 0, 1, Bench.record(2, 2, 1)));
        due.is("none behind a wrong number", b.log.start(), 1);
        due.is("safe", b.log.safe(), 1);
        due.is("next sector", b.log.count(4), 3);
    }

    /** Records 1 whole and 2 of 16 bytes, of which 10 stand in the first sector, and what the second one tells. */
    private static void fitOfTheBegun() {
        int[] two = Bench.record(10, 2, 60);
        int[] three = Bench.record(1, 3, 90);
        int[] head = Bench.join(Bench.record(2, 1, 1), Bench.cutOut(two, 0, 10));
        int[] both = Bench.join(Bench.cutOut(two, 10, 16), three);
        int[] rest = Bench.cutOut(two, 10, 16);
        fit("what it lacks", head, both, 6, 3);
        fit("not so", head, both, 5, 1);
        fit("not so", head, both, 7, 1);
        fit("255, but more is there", head, both, 255, 1);
        fit("lacks all that is there", head, rest, 255, 2);
        fit("lacks all that is there", head, rest, 6, 1);
        fit("lacks more than is there", head, Bench.cutOut(rest, 0, 5), 255, 1);
        fit("begun anew", head, Bench.join(Bench.record(3, 2, 7), three), 0, 3);
        fit("begun anew, of another number", head, both, 0, 1);
    }

    private static void fit(String what, int[] first, int[] second, int begin, int want) {
        Bench b = new Bench();
        b.log.cut();
        b.lay(2, Bench.sector(1, first.length, 0, 1, first));
        b.lay(3, Bench.sector(2, second.length, begin, 1, second));
        due.is(what + ", byte 5 is " + begin, b.log.start(), want);
        due.is("used: " + what + ", byte 5 is " + begin, b.log.count(3), want > 1 ? 2 : want);
        due.is("version", b.log.count(9), 2);
    }

    /** Only the first byte of record 2 stands in the first sector. */
    private static void fitWithoutItsSecondByte() {
        int[] two = Bench.record(10, 2, 60);
        int[] three = Bench.record(1, 3, 90);
        for (int split = 1; split < 16; split++) {
            int[] head = Bench.join(Bench.record(2, 1, 1), Bench.cutOut(two, 0, split));
            int[] both = Bench.join(Bench.cutOut(two, split, 16), three);
            fit("split behind " + split, head, both, 16 - split, 3);
            fit("split behind " + split, head, both, 17 - split, 1);
            fit("split behind " + split, head, both, 15 - split, 1);
            fit("split behind " + split, head, both, 255, 1);
        }
    }

    /** The record that is begun has a size that none may have: the sector fits by it, the record is not told. */
    private static void fitByAWrongSize() {
        int[] one = Bench.record(2, 1, 1);
        int[] two = Bench.record(2, 2, 9);
        int[] none = Bench.record(0, 2, 1);
        // It is not known to be wrong while its 6 bytes are not there, so a sector that begins anew goes on.
        fit("begun anew behind a size of 0", Bench.join(one, Bench.cutOut(none, 0, 4)), two, 0, 2);
        fit("size of 0", Bench.join(one, Bench.cutOut(none, 0, 4)), Bench.join(Bench.cutOut(none, 4, 6), two), 2, 1);
        fit("begun anew behind a size of 65535", Bench.join(one, new int[] {255, 255}), two, 0, 2);

        Bench b = new Bench();
        b.log.cut();
        int[] first = Bench.join(one, new int[] {255, 255});
        b.lay(2, Bench.sector(1, first.length, 0, 1, first));
        b.lay(3, Bench.sector(2, 2, 255, 1, 0, 0));
        b.lay(4, Bench.sector(3, 8, 0, 1, two));
        due.is("255 goes on, then begun anew", b.log.start(), 2);
        due.is("record 2", b.log.at(2, 1), 10);
        due.is("used", b.log.count(3), 3);

        Bench c = new Bench();
        c.log.cut();
        c.lay(2, Bench.sector(1, first.length, 0, 1, first));
        c.lay(3, Bench.sector(2, 2, 1, 1, 0, 0));
        c.lay(4, Bench.sector(3, 8, 0, 1, two));
        due.is("1 does not fit", c.log.start(), 1);
    }

    private static void fitOfEmptySectors() {
        int[] one = Bench.record(2, 1, 1);
        int[] two = Bench.record(2, 2, 9);
        int[][] begins = {{255, 7, 2}, {0, 0, 2}, {255, 0, 2}, {0, 7, 1}, {5, 7, 1}};
        for (int[] w : begins) {
            Bench b = new Bench();
            b.log.cut();
            int[] first = Bench.join(one, Bench.cutOut(two, 0, 1));
            b.lay(2, Bench.sector(1, first.length, 0, 1, first));
            // Byte 16 stands beyond what this one has, so it is no size.
            b.lay(3, Bench.sector(2, 0, w[0], 1, 77));
            boolean goesOn = w[1] != 0;
            int[] last = goesOn ? Bench.join(Bench.cutOut(two, 1, 8), new int[] {0}) : two;
            b.lay(4, Bench.sector(3, last.length, w[1], 1, last));
            due.is("empty sector of " + w[0] + ", then " + w[1], b.log.start(), w[2]);
            due.is("size", b.log.size(2), w[2] == 2 ? 2 : -1);
            due.is("at", b.log.at(2, 1), w[2] == 2 ? 10 : -1);
            due.is("used", b.log.count(3), w[2] == 2 ? 3 : 1);
        }
    }

    private static void fitWhereNoneIsBegun() {
        int[] one = Bench.record(2, 1, 1);
        int[] two = Bench.record(2, 2, 9);
        fit("none is begun", one, two, 0, 2);
        fit("none is begun", one, two, 255, 1);
        fit("none is begun", one, Bench.join(new int[1], two), 1, 1);
    }

    /** A record may go on behind a sector that is not full. */
    private static void shortSectors() {
        Bench b = new Bench();
        b.log.cut();
        int[] one = Bench.record(10, 1, 100);
        b.lay(2, Bench.sector(1, 7, 0, 1, Bench.cutOut(one, 0, 7)));
        b.lay(3, Bench.sector(2, 2, 255, 1, Bench.cutOut(one, 7, 9)));
        b.lay(4, Bench.sector(3, 7, 255, 1, Bench.cutOut(one, 9, 16)));
        due.is("start", b.log.start(), 1);
        for (int i = 0; i < 10; i++) {
            due.is("byte " + i, b.log.at(1, i), 100 + i);
        }
        due.is("used", b.log.count(3), 3);
    }

    private static void onceRound() {
        Bench b = new Bench();
        for (int r = 1; r <= 62; r++) {
            b.appendAndFlush(1, r);
        }
        due.is("restart", b.restart(), 62);
        due.is("used", b.log.count(3), 62);
        due.is("next sector", b.log.count(4), 2);
        due.is("no room", b.append(1, 1), -1);
        due.is("checkpoint(63)", b.log.checkpoint(63), 62);
        due.is("room", b.log.append(), 63);
        due.is("flush", b.log.flush(), 1);
        due.is("restart", b.restart(), 1);
        due.is("first", b.log.first(), 63);
        due.is("next sector", b.log.count(4), 3);
    }
}
