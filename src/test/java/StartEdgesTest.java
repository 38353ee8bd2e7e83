/** Each sentence of "A START", FIT among them, that names a boundary case, with its own test on a disk laid by hand. */
public final class StartEdgesTest {
    private static final Due due = new Due();
    private static final int[] ONE = Bench.record(2, 1, 10);
    private static final int[] TWO = Bench.record(10, 2, 20);
    private static final int[] THREE = Bench.record(1, 3, 30);

    public static void main(String[] args) {
        greaterVersion();
        onlyGoodHead();
        fromItsPlaceOn();
        onceRound();
        notTorn();
        theirSum();
        atMost48();
        nextSerial();
        firstSerialIsTheHeads();
        serialGoesRound();
        versionNotBelow();
        versionOfTheOneBefore();
        begunAnew();
        begunAnewWithLessThan6();
        whatItLacks();
        lacksJustAsMany();
        lacksMore();
        whateverTheyTell();
        secondByteInThisSector();
        zeroBeyondWhatItHas();
        emptySectors();
        noneBegun();
        firstSector();
        leftOutBefore();
        firstHasTheHeadsNumber();
        nextNumber();
        sizes();
        sizeAbove255();
        frontNotThereYet();
        wholeAreSafe();
        behindTheLast();
        atTheHeadsPlace();
        headWrittenAnew();
        headVersionGoesRound();
        dropsWhatWasBehind();
        startBehindAStart();
        due.end();
    }

    private static int[] full(int serial, int begin, int[] data) {
        return Bench.sector(serial, data.length, begin, 1, data);
    }

    private static int[] part(int[] row, int from, int to) {
        return Bench.cutOut(row, from, to);
    }

    /** Record 1 whole and the first bytes of record 2, then a second sector: how many records are safe. */
    private static int pair(int ofTwo, int begin, int[] second) {
        return Bench.laid(full(1, 0, Bench.join(ONE, part(TWO, 0, ofTwo))), full(2, begin, second)).log.start();
    }

    private static void greaterVersion() {
        due.by("A START takes the good head of the greater version");
        for (int greater = 0; greater < 2; greater++) {
            Bench b = new Bench();
            b.log.cut();
            b.layHead(greater, 9, 3, 30, 33);
            b.layHead(1 - greater, 8, 4, 40, 44);
            due.is("start", b.log.start(), 0);
            due.is("record", b.log.first(), 30);
            due.is("place", b.log.count(4), 33);
            due.is("serial", b.log.count(5), 3);
            due.is("version", b.log.count(9), 10);
        }
    }

    private static void onlyGoodHead() {
        due.by("A START takes the good head");
        for (int good = 0; good < 2; good++) {
            Bench b = new Bench();
            b.log.cut();
            b.layHead(good, 5, 3, 30, 33);
            b.layHead(1 - good, 8, 4, 40, 44);
            b.log.poke(1 - good, 15, 4);
            due.is("start", b.log.start(), 0);
            due.is("record", b.log.first(), 30);
            due.is("version", b.log.count(9), 6);
        }
    }

    private static void fromItsPlaceOn() {
        due.by("From its place on sectors are read");
        Bench b = new Bench();
        b.log.cut();
        b.layHead(0, 3, 7, 1, 63);
        b.lay(63, full(7, 0, ONE));
        b.lay(2, full(8, 0, TWO));
        b.lay(62, full(6, 0, ONE));
        due.is("2 behind 63", b.log.start(), 2);
        due.is("used", b.log.count(3), 2);
        due.is("next sector", b.log.count(4), 3);
    }

    private static void onceRound() {
        due.by("once round at most");
        Bench b = Bench.used(62);
        due.is("restart", b.restart(), 62);
        due.is("used", b.log.count(3), 62);
        due.is("next sector", b.log.count(4), 2);
        due.is("serial", b.log.count(5), 63);
        Bench c = Bench.used(62);
        c.log.checkpoint(62);
        due.is("the last sector alone", c.restart(), 1);
        due.is("not round to the first", c.log.count(4), 2);
    }

    private static void notTorn() {
        due.by("as long as they are not torn");
        Bench b = Bench.used(1);
        b.append(1, 2);
        b.log.arm(0, 63);
        b.log.flush();
        due.is("its sum is so, byte 63 being 0", b.number(3, 6), Bench.sum(bytesOf(b, 3), 0, 6, 10, 64));
        due.is("start", b.log.start(), 1);
        due.is("next sector", b.log.count(4), 3);
    }

    private static int[] bytesOf(Bench b, int sector) {
        int[] s = new int[64];
        for (int i = 0; i < 64; i++) {
            s[i] = b.log.disk(sector, i);
        }
        return s;
    }

    private static void theirSum() {
        due.by("as long as they .. have their sum");
        for (int i = 0; i < 64; i++) {
            Bench b = Bench.used(3);
            b.log.cut();
            b.log.poke(3, i, 16);
            due.is("byte " + i + " of the second", b.log.start(), 1);
            due.is("used", b.log.count(3), 1);
        }
    }

    private static void atMost48() {
        due.by("as long as they .. have at most 48 bytes");
        int[] whole = Bench.record(42, 1, 1);
        int[][] many = {{48, 1}, {49, 0}, {64, 0}, {255, 0}};
        for (int[] m : many) {
            due.is("bytes: " + m[0], Bench.laid(Bench.sector(1, m[0], 0, 1, whole)).log.start(), m[1]);
        }
    }

    private static void nextSerial() {
        due.by("as long as they .. have the next serial");
        int[][] serials = {{2, 2}, {1, 1}, {3, 1}, {0, 1}, {0x01000002, 1}};
        for (int[] s : serials) {
            due.is("serial " + s[0], Bench.laid(full(1, 0, ONE), full(s[0], 0, TWO)).log.start(), s[1]);
        }
    }

    private static void firstSerialIsTheHeads() {
        due.by("the next serial (the first one the head's)");
        int[][] serials = {{1, 1}, {0, 0}, {2, 0}, {-1, 0}};
        for (int[] s : serials) {
            due.is("serial " + s[0], Bench.laid(full(s[0], 0, ONE)).log.start(), s[1]);
        }
    }

    private static void serialGoesRound() {
        due.by("serials grow by 1 with each sector");
        Bench b = Bench.laid(full(-1, 0, ONE), full(0, 0, TWO));
        b.layHead(0, 3, -1, 1, 2);
        due.is("0 behind 4294967295", b.log.start(), 2);
        due.is("next serial", b.log.count(5), 1);
    }

    private static void versionNotBelow() {
        due.by("a version not below that of the one before");
        int[][] versions = {{5, 5, 2}, {5, 6, 2}, {5, 4, 1}, {0, 0, 2}, {0, -1, 2}, {-1, 0, 1}, {-1, -1, 2},
            {0x7FFFFFFF, 0x80000000, 2}, {0x80000000, 0x7FFFFFFF, 1}};
        for (int[] v : versions) {
            Bench b = Bench.laid(Bench.sector(1, 8, 0, v[0], ONE), Bench.sector(2, 16, 0, v[1], TWO));
            due.is("versions " + v[0] + ", " + v[1], b.log.start(), v[2]);
        }
        Bench b = Bench.laid(Bench.sector(1, 8, 0, 1, ONE));
        b.layHead(0, 90, 1, 1, 2);
        due.is("the first one may have any", b.log.start(), 1);
    }

    private static void versionOfTheOneBefore() {
        due.by("a version not below that of the one before");
        int[][] versions = {{1, 5, 3, 2}, {1, 5, 5, 3}, {4, 2, 4, 1}};
        for (int[] v : versions) {
            Bench b = Bench.laid(Bench.sector(1, 8, 0, v[0], ONE), Bench.sector(2, 16, 0, v[1], TWO),
                Bench.sector(3, 7, 0, v[2], THREE));
            due.is("versions " + v[0] + ", " + v[1] + ", " + v[2], b.log.start(), v[3]);
        }
    }

    private static void begunAnew() {
        due.by("where a record is begun and not whole yet, byte 5 is 0 (what was begun is left out then)");
        for (int ofTwo = 1; ofTwo < TWO.length; ofTwo++) {
            int[] other = Bench.record(3, 2, 90);
            Bench b = Bench.laid(full(1, 0, Bench.join(ONE, part(TWO, 0, ofTwo))),
                full(2, 0, Bench.join(other, THREE)));
            due.is("begun with " + ofTwo, b.log.start(), 3);
            due.is("its size", b.log.size(2), 3);
            due.is("its bytes", b.log.at(2, 2), 92);
            due.is("record 1", b.log.at(1, 1), 11);
            due.is("record 3", b.log.at(3, 0), 30);
        }
    }

    private static void begunAnewWithLessThan6() {
        due.by("what was begun is left out then, and one begins at 0");
        Bench b = Bench.laid(full(1, 0, Bench.join(ONE, part(TWO, 0, 9))), full(2, 0, part(TWO, 0, 4)),
            full(3, 0, part(TWO, 0, 12)), full(4, 4, Bench.join(part(TWO, 12, 16), THREE)));
        due.is("begun three times", b.log.start(), 3);
        due.is("used", b.log.count(3), 4);
        due.is("its bytes", b.log.at(2, 9), 29);
        due.is("of another number", pair(5, 0, Bench.record(2, 3, 0)), 1);
    }

    private static void whatItLacks() {
        due.by("or how many bytes it lacks, if these are fewer than the sector has");
        for (int ofTwo = 1; ofTwo < TWO.length; ofTwo++) {
            int lacks = TWO.length - ofTwo;
            int[] second = Bench.join(part(TWO, ofTwo, TWO.length), THREE);
            for (int begin = 0; begin < 24; begin++) {
                int want = begin == lacks ? 3 : 1;
                due.is("lacks " + lacks + ", byte 5 is " + begin, pair(ofTwo, begin, second), want);
            }
            due.is("lacks " + lacks + ", byte 5 is 255", pair(ofTwo, 255, second), 1);
        }
        due.is("one byte more than it lacks", pair(10, 6, Bench.join(part(TWO, 10, 16), new int[] {0})), 2);
    }

    private static void lacksJustAsMany() {
        due.by("if these are fewer than the sector has, else 255");
        for (int ofTwo = 1; ofTwo < TWO.length; ofTwo++) {
            int[] second = part(TWO, ofTwo, TWO.length);
            due.is("255, of " + ofTwo, pair(ofTwo, 255, second), 2);
            due.is("what it lacks, of " + ofTwo, pair(ofTwo, second.length, second), 1);
        }
    }

    private static void lacksMore() {
        due.by("if these are fewer than the sector has, else 255");
        int[][] begins = {{255, 3}, {0, 1}, {3, 1}, {6, 1}, {254, 1}};
        for (int[] g : begins) {
            Bench b = Bench.laid(full(1, 0, Bench.join(ONE, part(TWO, 0, 10))), full(2, g[0], part(TWO, 10, 13)),
                full(3, 3, Bench.join(part(TWO, 13, 16), THREE)));
            due.is("byte 5 is " + g[0], b.log.start(), g[1]);
            due.is("used", b.log.count(3), g[1] == 3 ? 3 : 1);
        }
    }

    private static void whateverTheyTell() {
        due.by("by its first two bytes, whatever they tell");
        int[] anew = Bench.record(2, 2, 70);
        int[][] fronts = {{0, 0}, {0, 201}, {1, 0}, {255, 255}};
        for (int[] f : fronts) {
            int lacks = 4 + (f[0] << 8 | f[1]);
            int[] second = {0, 0, 0};
            int fits = lacks < second.length ? lacks : 255;
            for (int begin = 1; begin < 256; begin++) {
                Bench b = Bench.laid(full(1, 0, Bench.join(ONE, f)), full(2, begin, second), full(3, 0, anew));
                due.is("size " + f[0] + " " + f[1] + ", byte 5 is " + begin, b.log.start(), begin == fits ? 2 : 1);
            }
        }
        // A size of 0 lacks 2 of its front; then all 6 are there, and it is none.
        int[] none = Bench.record(0, 2, 0);
        Bench b = Bench.laid(full(1, 0, Bench.join(ONE, part(none, 0, 4))),
            full(2, 2, Bench.join(part(none, 4, 6), anew)));
        due.is("a size of 0 fits, but is not told", b.log.start(), 1);
    }

    private static void secondByteInThisSector() {
        due.by("those that are not there yet are looked for in this sector");
        int[] second = Bench.join(part(TWO, 1, 16), THREE);
        due.is("its first byte tells 10", pair(1, 15, second), 3);
        due.is("not 0", pair(1, 5, second), 1);
        int[] high = {1};
        int[] rest = Bench.join(new int[] {4}, new int[12]);
        Bench b = Bench.laid(full(1, 0, Bench.join(ONE, high)), full(2, 255, rest));
        due.is("260 bytes, which is none", b.log.start(), 1);
    }

    private static void zeroBeyondWhatItHas() {
        due.by("looked for in this sector, 0 beyond what it has");
        // An empty sector, with a byte where its first one would stand; what is begun lacks more than 0 anyway.
        int[][] begins = {{255, 2}, {5, 1}, {82, 1}};
        for (int[] g : begins) {
            Bench b = Bench.laid(full(1, 0, Bench.join(ONE, part(TWO, 0, 1))), Bench.sector(2, 0, g[0], 1, 77),
                full(3, 255, part(TWO, 1, 16)));
            due.is("byte 5 is " + g[0], b.log.start(), g[1]);
            due.is("size", b.log.size(2), g[1] == 2 ? 10 : -1);
        }
    }

    private static void emptySectors() {
        due.by("4 how many bytes it has (0 .. 48)");
        Bench b = Bench.laid(full(1, 0, ONE), full(2, 0, new int[0]), full(3, 0, TWO));
        due.is("where none is begun", b.log.start(), 2);
        due.is("used", b.log.count(3), 3);
        Bench c = Bench.laid(full(1, 0, Bench.join(ONE, part(TWO, 0, 8))), full(2, 255, new int[0]),
            full(3, 255, part(TWO, 8, 16)));
        due.is("in a record", c.log.start(), 2);
        for (int i = 0; i < 10; i++) {
            due.is("byte " + i, c.log.at(2, i), 20 + i);
        }
        Bench d = Bench.laid(full(1, 0, Bench.join(ONE, part(TWO, 0, 8))), full(2, 0, new int[0]), full(3, 0, TWO));
        due.is("what was begun is left out", d.log.start(), 2);
        Bench e = Bench.laid(full(1, 0, ONE), full(2, 0, new int[0]));
        due.is("as the last one", e.log.start(), 1);
        due.is("it is not used", e.log.count(3), 1);
    }

    private static void noneBegun() {
        due.by("where none is, byte 5 is 0");
        for (int begin = 0; begin < 256; begin++) {
            Bench b = Bench.laid(full(1, 0, ONE), full(2, begin, TWO));
            due.is("byte 5 is " + begin, b.log.start(), begin == 0 ? 2 : 1);
        }
        Bench b = Bench.laid(full(1, 0, ONE), full(2, 255, new int[0]), full(3, 0, TWO));
        due.is("255 of an empty one", b.log.start(), 1);
    }

    private static void firstSector() {
        due.by("in the first one it is less than the bytes it has");
        int[] data = Bench.join(new int[] {9, 9, 9}, ONE);
        int[][] begins = {{3, 1}, {2, 0}, {10, 0}, {11, 0}, {12, 0}, {255, 0}};
        for (int[] g : begins) {
            due.is("byte 5 is " + g[0], Bench.laid(full(1, g[0], data)).log.start(), g[1]);
        }
        // The last byte of the first sector is the first one of record 1.
        Bench b = Bench.laid(full(1, 10, Bench.join(new int[10], part(ONE, 0, 1))), full(2, 255, part(ONE, 1, 8)));
        due.is("one less than the bytes", b.log.start(), 1);
        Bench c = Bench.laid(full(1, 11, Bench.join(new int[10], part(ONE, 0, 1))), full(2, 0, ONE));
        due.is("as many as the bytes", c.log.start(), 0);
        due.is("0 of 0", Bench.laid(full(1, 0, new int[0]), full(2, 0, ONE)).log.start(), 0);
    }

    private static void leftOutBefore() {
        due.by("in the first one .. (what stands before is left out)");
        Bench b = new Bench();
        b.append(60, 1);
        b.append(2, 2);
        b.log.flush();
        due.is("checkpoint(2)", b.log.checkpoint(2), 1);
        due.is("restart", b.restart(), 1);
        due.is("first", b.log.first(), 2);
        due.is("its bytes", b.log.at(2, 1), 3);
        due.is("record 1", b.log.size(1), -1);
    }

    private static void firstHasTheHeadsNumber() {
        due.by("the first one having the head's number");
        int[][] numbers = {{7, 1}, {6, 0}, {8, 0}, {0, 0}, {-1, 0}};
        for (int[] n : numbers) {
            Bench b = Bench.laid(full(1, 0, Bench.record(2, n[0], 5)));
            b.layHead(0, 1, 1, 7, 2);
            due.is("number " + n[0], b.log.start(), n[1]);
            due.is("first", b.log.first(), 7);
            due.is("safe", b.log.safe(), 6 + n[1]);
        }
        Bench b = Bench.laid(full(1, 0, Bench.join(Bench.record(1, 1000000000, 5), Bench.record(1, 1000000001, 6))));
        b.layHead(0, 1, 1, 1000000000, 2);
        due.is("behind 1000000000", b.log.start(), 2);
        due.is("safe", b.log.safe(), 1000000001);
    }

    private static void nextNumber() {
        due.by("as long as they have the next number");
        int[] numbers = {1, 3, 0, -2, 0x02000000, 258};
        for (int n : numbers) {
            int[] wrong = Bench.join(ONE, Bench.record(2, n, 40), TWO);
            Bench b = Bench.laid(full(1, 0, wrong), full(2, 0, TWO));
            due.is("2 behind " + n, b.log.start(), 1);
            due.is("used", b.log.count(3), 1);
        }
        // All 6 bytes of it are there, so it is known not to be the next, though it is not whole.
        Bench b = Bench.laid(full(1, 0, Bench.join(ONE, part(Bench.record(9, 3, 0), 0, 6))), full(2, 0, TWO));
        due.is("begun only", b.log.start(), 1);
    }

    private static int startOfSize(int size) {
        int[] data = Bench.record(size, 1, 1);
        int sectors = (data.length + 47) / 48;
        int[][] laid = new int[sectors][];
        for (int k = 0; k < sectors; k++) {
            laid[k] = full(1 + k, k == 0 ? 0 : 255, part(data, k * 48, Math.min(data.length, k * 48 + 48)));
        }
        return Bench.laid(laid).log.start();
    }

    private static void sizes() {
        due.by("as long as they have .. 1 .. 200 bytes");
        due.is("0 bytes", startOfSize(0), 0);
        due.is("1 byte", startOfSize(1), 1);
        due.is("200 bytes", startOfSize(200), 1);
        due.is("201 bytes", startOfSize(201), 0);
        int[] none = Bench.join(ONE, Bench.record(0, 2, 0), TWO);
        Bench b = Bench.laid(full(1, 0, none), full(2, 0, TWO));
        due.is("none behind one of 0 bytes", b.log.start(), 1);
        due.is("none behind one of 0 bytes: used", b.log.count(3), 1);
    }

    private static void sizeAbove255() {
        due.by("2 bytes of how many data bytes it has");
        int[] data = Bench.record(2, 1, 1);
        data[0] = 1;
        due.is("258, not 2", Bench.laid(full(1, 0, data)).log.start(), 0);
        data[0] = 128;
        due.is("32770, not 2", Bench.laid(full(1, 0, data)).log.start(), 0);
    }

    private static void frontNotThereYet() {
        due.by("one of which 6 bytes are not there yet goes on likewise");
        for (int ofTwo = 1; ofTwo < 6; ofTwo++) {
            for (int again = ofTwo + 1; again < 7; again++) {
                Bench b = Bench.laid(full(1, 0, Bench.join(ONE, part(TWO, 0, ofTwo))),
                    full(2, 255, part(TWO, ofTwo, again)), full(3, 16 - again, Bench.join(part(TWO, again, 16), THREE)));
                due.is(ofTwo + " bytes, then " + again, b.log.start(), 3);
                due.is("its size", b.log.size(2), 10);
                due.is("its first byte", b.log.at(2, 0), 20);
                due.is("its last byte", b.log.at(2, 9), 29);
            }
            int[] wrong = Bench.record(10, 3, 0);
            Bench b = Bench.laid(full(1, 0, Bench.join(ONE, part(wrong, 0, ofTwo))),
                full(2, 16 - ofTwo, Bench.join(part(wrong, ofTwo, 16), TWO)), full(3, 0, TWO));
            due.is(ofTwo + " bytes of one that is not the next", b.log.start(), 1);
        }
    }

    private static void wholeAreSafe() {
        due.by("Those that are whole are safe");
        for (int ofTwo = 0; ofTwo <= TWO.length; ofTwo++) {
            Bench b = Bench.laid(full(1, 0, Bench.join(ONE, part(TWO, 0, ofTwo))));
            int want = ofTwo == TWO.length ? 2 : 1;
            due.is(ofTwo + " bytes of record 2", b.log.start(), want);
            due.is("safe", b.log.safe(), want);
            due.is("size(2)", b.log.size(2), want == 2 ? 10 : -1);
            due.is("size(1)", b.log.size(1), 2);
        }
    }

    private static void behindTheLast() {
        due.by("the log goes on behind the sector in which the last of them ends, with the next serial, and number");
        int[] longer = Bench.record(100, 2, 1);
        Bench b = Bench.laid(full(1, 0, Bench.join(ONE, part(longer, 0, 40))), full(2, 255, part(longer, 40, 80)));
        due.is("start", b.log.start(), 1);
        due.is("used", b.log.count(3), 1);
        due.is("next sector", b.log.count(4), 3);
        due.is("next serial", b.log.count(5), 2);
        due.is("next number", b.appendAndFlush(1, 1), 2);
        due.is("written there", b.number(3, 0), 2);
        due.is("restart", b.restart(), 2);
        int[] first = Bench.record(80, 1, 1);
        Bench c = Bench.laid(full(1, 0, part(first, 0, 48)),
            full(2, 38, Bench.join(part(first, 48, 86), Bench.record(1, 5, 0))));
        due.is("one that is not the next behind it", c.log.start(), 1);
        due.is("used", c.log.count(3), 2);
        due.is("next sector", c.log.count(4), 4);
        due.is("next serial", c.log.count(5), 3);
    }

    private static void atTheHeadsPlace() {
        due.by("(at the head's place, if there is none), with the next serial, and number");
        Bench b = new Bench();
        b.log.cut();
        b.layHead(0, 4, 77, 88, 63);
        b.lay(63, full(77, 0, part(Bench.record(60, 88, 1), 0, 48)));
        due.is("start", b.log.start(), 0);
        due.is("used", b.log.count(3), 0);
        due.is("next sector", b.log.count(4), 63);
        due.is("next serial", b.log.count(5), 77);
        due.is("first", b.log.first(), 88);
        due.is("safe", b.log.safe(), 87);
        due.is("next number", b.appendAndFlush(1, 1), 88);
        due.is("restart", b.restart(), 1);
    }

    private static void headWrittenAnew() {
        due.by("Then that head is written anew, with a version 1 more, into the other one of both sectors (a step)");
        for (int taken = 0; taken < 2; taken++) {
            Bench b = new Bench();
            b.log.cut();
            b.layHead(taken, 9, 3, 30, 33);
            b.layHead(1 - taken, 2, 4, 40, 44);
            b.log.start();
            int[] want = Bench.head(10, 3, 30, 33);
            int[] was = Bench.head(9, 3, 30, 33);
            for (int i = 0; i < 17; i++) {
                due.is("the other one, byte " + i, b.log.disk(1 - taken, i), want[i]);
                due.is("the taken one, byte " + i, b.log.disk(taken, i), was[i]);
            }
            due.is("steps", b.log.count(6), 1);
        }
        Bench b = Bench.used(2);
        b.log.arm(0, 30);
        b.log.checkpoint(2);
        b.log.start();
        due.is("a torn one is whole then", b.log.torn(1), false);
    }

    private static void headVersionGoesRound() {
        due.by("A head is GOOD when .. its version is not 0");
        Bench b = Bench.laid(full(1, 0, ONE));
        b.layHead(0, -1, 1, 1, 2);
        due.is("start by version 4294967295", b.log.start(), 1);
        due.is("1 more is 0", b.number(1, 0), 0);
        due.is("so the latest good one is", b.log.count(9), -1);
        due.is("restart", b.restart(), 1);
        due.is("again by the same", b.number(0, 0), -1);
    }

    private static void dropsWhatWasBehind() {
        due.by("the start finds all that was told to be safe, and what came behind it as far as it is whole");
        for (int steps = 0; steps <= 5; steps++) {
            Bench b = new Bench();
            b.appendAndFlush(30, 1);
            b.append(60, 2);
            b.append(60, 3);
            b.append(60, 4);
            b.log.arm(steps, 20);
            b.log.flush();
            // Records 2 to 4 end in the second, third and fifth of five sectors; 5 steps are all of them.
            int[] whole = {0, 0, 1, 2, 2, 3};
            if (steps < 5) {
                due.is("start, " + steps + " steps", b.log.start(), 1 + whole[steps]);
            }
            due.is("safe, " + steps + " steps", b.log.safe(), 1 + whole[steps]);
        }
    }

    /** What one start left off at is nothing to the next one. */
    private static void startBehindAStart() {
        due.by("A START takes the good head of the greater version. From its place on sectors are read");
        int[] before = {9, 9, 9};
        Bench b = Bench.laid(full(1, 3, Bench.join(before, ONE, part(TWO, 0, 12))));
        Bench c = Bench.laid(full(1, 3, Bench.join(before, ONE, Bench.record(2, 9, 0))));
        for (int times = 0; times < 3; times++) {
            due.is("behind one that is not whole", b.restart(), 1);
            due.is("used", b.log.count(3), 1);
            due.is("record 1", b.log.at(1, 1), 11);
            due.is("behind one that is not the next", c.restart(), 1);
            due.is("used", c.log.count(3), 1);
            due.is("record 1", c.log.at(1, 1), 11);
        }
    }
}
