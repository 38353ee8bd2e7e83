/** Each sentence of "Terms" on queue, flush, room, checkpoint and steps that names a boundary case, with its own test. */
public final class MemoryEdgesTest {
    private static final Due due = new Due();

    public static void main(String[] args) {
        ownSector();
        fullButTheLast();
        safeThen();
        emptyQueue();
        whenAskedFor();
        moreThan400();
        mostAtOnce();
        asManyTicksAsTheDelay();
        oldestOfTheQueue();
        longestDelay();
        usedFromFirstToLast();
        refusedWithoutRoom();
        roomForTheQueueToo();
        fullLog();
        checkpointInTheMidst();
        checkpointOfOneThatGoesOn();
        checkpointWhereAnotherEnds();
        checkpointOfTheNext();
        checkpointOfTheNextInAFullLog();
        versionOneMore();
        theOtherHead();
        theOtherHeadWasTorn();
        notUsedAnyMore();
        stepsAreWritings();
        armedWithNone();
        armedOverHeadsAndSectors();
        firstPartBytes();
        partOf0();
        partOf63();
        powerTakesTheQueue();
        tapeAndDelayStay();
        due.end();
    }

    private static void ownSector() {
        due.by("A FLUSH writes the queue's records .. from a sector of its own on");
        Bench b = new Bench();
        b.appendAndFlush(1, 1);
        b.append(1, 2);
        due.is("flush", b.log.flush(), 1);
        due.is("sector 2 has 41 bytes of room, and stays", b.log.disk(2, 4), 7);
        due.is("sector 3", b.log.disk(3, 4), 7);
        due.is("byte 5", b.log.disk(3, 5), 0);
    }

    private static void fullButTheLast() {
        due.by("each sector full but the last");
        int[][] sizes = {{89, 2, 47}, {90, 2, 48}, {91, 3, 1}};
        for (int[] s : sizes) {
            Bench b = new Bench();
            b.append(s[0], 1);
            due.is("flush of " + (6 + s[0]), b.log.flush(), s[1]);
            for (int k = 0; k < s[1] - 1; k++) {
                due.is("full", b.log.disk(2 + k, 4), 48);
            }
            due.is("the last", b.log.disk(1 + s[1], 4), s[2]);
            due.is("none behind it", b.log.disk(2 + s[1], 4), 0);
        }
    }

    private static void safeThen() {
        due.by("then they are SAFE, and the queue is empty");
        Bench b = new Bench();
        b.append(1, 1);
        b.append(1, 2);
        due.is("safe before", b.log.safe(), 0);
        due.is("size before", b.log.size(1), -1);
        b.log.flush();
        due.is("safe", b.log.safe(), 2);
        due.is("records in the queue", b.log.count(1), 0);
        due.is("bytes in the queue", b.log.count(2), 0);
        due.is("none waits", b.log.count(8), -1);
    }

    private static void emptyQueue() {
        due.by("(An empty queue: nothing is written.)");
        Bench b = new Bench();
        b.log.arm(0, 9);
        due.is("flush", b.log.flush(), 0);
        due.is("tick", b.log.tick(1000), 0);
        due.is("on", b.log.count(0), 1);
        due.is("steps", b.log.count(6), 0);
        due.is("flushes", b.log.count(7), 0);
        due.is("next sector", b.log.count(4), 2);
        due.is("serial", b.log.count(5), 1);
    }

    private static void whenAskedFor() {
        due.by("It comes when it is asked for");
        Bench b = new Bench();
        b.append(1, 1);
        due.is("not before", b.log.count(7), 0);
        due.is("flush", b.log.flush(), 1);
        due.is("flush again", b.log.flush(), 0);
        due.is("flushes", b.log.count(7), 1);
    }

    private static void moreThan400() {
        due.by("when the queue has more than 400 bytes (records whole, with their 6) behind an append");
        Bench b = new Bench();
        b.append(200, 1);
        b.append(188, 1);
        due.is("400 wait", b.log.count(2), 400);
        due.is("no flush", b.log.count(7), 0);
        Bench c = new Bench();
        c.append(200, 1);
        c.append(189, 1);
        due.is("401 do not", c.log.count(2), 0);
        due.is("a flush", c.log.count(7), 1);
        due.is("safe", c.log.safe(), 2);
        due.is("sectors", c.log.count(3), 9);
    }

    private static void mostAtOnce() {
        due.by("when the queue has more than 400 bytes .. behind an append");
        Bench b = new Bench();
        for (int r = 1; r <= 56; r++) {
            b.append(1, r);
        }
        b.append(2, 57);
        due.is("400 wait", b.log.count(2), 400);
        due.is("206 more", b.append(200, 3), 58);
        due.is("606 bytes take 13 sectors", b.log.count(3), 13);
        due.is("the last has", b.log.disk(14, 4), 606 - 12 * 48);
        due.is("its last byte", b.log.at(58, 199), 202);
        due.is("restart", b.restart(), 58);
    }

    private static void asManyTicksAsTheDelay() {
        due.by("when the oldest record in it waits since as many ticks as the DELAY tells");
        Bench b = new Bench();
        b.log.delay(3);
        b.append(1, 1);
        due.is("one less", b.log.tick(2), 0);
        due.is("waits", b.log.count(8), 2);
        due.is("as many", b.log.tick(1), 1);
        b.append(1, 2);
        due.is("as many at once", b.log.tick(3), 1);
        b.append(1, 3);
        due.is("more at once, one flush", b.log.tick(9), 1);
        due.is("flushes", b.log.count(7), 3);
    }

    private static void oldestOfTheQueue() {
        due.by("when the oldest record in it waits");
        Bench b = new Bench();
        b.append(1, 1);
        b.log.tick(6);
        b.append(1, 2);
        due.is("its ticks", b.log.count(8), 6);
        due.is("by the oldest", b.log.tick(4), 1);
        due.is("the younger goes too", b.log.safe(), 2);
        b.append(1, 3);
        due.is("ticks before it came are not its own", b.log.count(8), 0);
        b.log.tick(9);
        b.log.cut();
        b.log.start();
        b.append(1, 3);
        due.is("nor those of one that is gone", b.log.tick(9), 0);
    }

    private static void longestDelay() {
        due.by("as many ticks as the DELAY tells");
        Bench b = new Bench();
        b.log.delay(1000);
        b.append(1, 1);
        due.is("999", b.log.tick(999), 0);
        due.is("1000", b.log.tick(1), 1);
        b.log.delay(1);
        b.append(1, 1);
        due.is("1", b.log.tick(1), 1);
    }

    private static void usedFromFirstToLast() {
        due.by("the sectors of the log from the first one on that is not given up to the last one written are USED");
        Bench b = new Bench();
        due.is("none", b.log.count(3), 0);
        b.append(43, 1);
        due.is("none by the queue", b.log.count(3), 0);
        b.log.flush();
        due.is("two", b.log.count(3), 2);
        b.appendAndFlush(1, 1);
        due.is("three", b.log.count(3), 3);
        b.log.checkpoint(2);
        due.is("one", b.log.count(3), 1);
        b.log.checkpoint(3);
        due.is("none", b.log.count(3), 0);
    }

    private static void refusedWithoutRoom() {
        due.by("an append is refused when the queue with it would take more sectors than are not used");
        Bench b = Bench.used(61);
        due.is("49 bytes, one sector", b.append(43, 0), -1);
        due.is("nothing is queued", b.log.count(2), 0);
        Bench c = Bench.used(61);
        due.is("48 bytes, one sector", c.append(42, 0), 62);
        due.is("flush", c.log.flush(), 1);
        Bench d = Bench.used(57);
        due.is("206 bytes, five sectors", d.append(200, 0), 58);
        Bench e = Bench.used(58);
        due.is("206 bytes, four sectors", e.append(200, 0), -1);
    }

    private static void roomForTheQueueToo() {
        due.by("the queue with it would take more sectors");
        Bench b = Bench.used(61);
        due.is("24 bytes", b.append(18, 0), 62);
        due.is("25 more", b.append(19, 0), -1);
        due.is("the queue stays", b.log.count(2), 24);
        due.is("its ticks too", b.log.tick(9), 0);
        due.is("the tape stays", b.log.append(), -1);
        due.is("flush", b.log.flush(), 1);
        Bench c = Bench.used(61);
        c.append(18, 0);
        due.is("24 more", c.append(18, 0), 63);
    }

    private static void fullLog() {
        due.by("more sectors than are not used");
        Bench b = Bench.used(62);
        due.is("used", b.log.count(3), 62);
        due.is("one byte", b.append(1, 0), -1);
        due.is("flush", b.log.flush(), 0);
        due.is("records are there", b.log.at(1, 0), 1);
        b.log.checkpoint(2);
        due.is("one sector is free", b.log.append(), 63);
        due.is("no other", b.append(42, 0), -1);
        due.is("flush", b.log.flush(), 1);
        due.is("it went into the first one", b.number(2, 0), 63);
    }

    /** Records 1 to 3 begin in sector 2, 4 in sector 3, where 3 ends, and 5 and 6 in sector 4. */
    private static Bench six() {
        Bench b = new Bench();
        b.append(6, 1);
        b.append(6, 2);
        b.append(24, 3);
        b.append(36, 4);
        b.append(1, 5);
        b.append(1, 6);
        b.log.flush();
        return b;
    }

    private static void headIs(Bench b, int sector, int version, int serial, int record, int place) {
        due.is("head's version", b.number(sector, 0), version);
        due.is("head's serial", b.number(sector, 4), serial);
        due.is("head's record", b.number(sector, 8), record);
        due.is("head's place", b.log.disk(sector, 12), place);
        due.is("head's sum", b.number(sector, 13), Bench.sum(Bench.head(version, serial, record, place), 0, 13, 0, 0));
    }

    private static void checkpointInTheMidst() {
        due.by("The first sector of the log is then that in which that record begins");
        Bench b = six();
        due.is("flushed", b.log.count(3), 3);
        due.is("checkpoint(2)", b.log.checkpoint(2), 0);
        headIs(b, 1, 2, 1, 1, 2);
        due.is("checkpoint(3)", b.log.checkpoint(3), 0);
        headIs(b, 0, 3, 1, 1, 2);
        due.is("checkpoint(6)", b.log.checkpoint(6), 2);
        headIs(b, 1, 4, 3, 5, 4);
        due.is("first", b.log.first(), 5);
        due.is("restart", b.restart(), 2);
        due.is("record 6", b.log.at(6, 0), 6);
    }

    private static void checkpointOfOneThatGoesOn() {
        due.by("that in which that record begins");
        Bench b = new Bench();
        b.append(41, 1);
        b.append(100, 2);
        b.log.flush();
        due.is("record 2 begins with the last byte of sector 2", b.log.checkpoint(2), 0);
        headIs(b, 1, 2, 1, 1, 2);
        due.is("restart", b.restart(), 2);
        due.is("record 2", b.log.at(2, 99), 101);
    }

    private static void checkpointWhereAnotherEnds() {
        due.by("the number of the first record that begins there");
        Bench b = six();
        due.is("checkpoint(4)", b.log.checkpoint(4), 1);
        headIs(b, 1, 2, 2, 4, 3);
        due.is("record 3 ends there, but it is gone", b.log.first(), 4);
        due.is("size(3)", b.log.size(3), -1);
        due.is("restart", b.restart(), 3);
        due.is("record 4", b.log.at(4, 35), 39);
    }

    private static void checkpointOfTheNext() {
        due.by("(the next one to be written, if it is one that is not there yet)");
        Bench b = six();
        due.is("checkpoint(7)", b.log.checkpoint(7), 3);
        headIs(b, 1, 2, 4, 7, 5);
        due.is("first", b.log.first(), 7);
        due.is("again", b.log.checkpoint(7), 0);
        due.is("append", b.appendAndFlush(1, 70), 7);
        due.is("it begins there", b.number(5, 0), 4);
        due.is("restart", b.restart(), 1);
        Bench c = new Bench();
        due.is("of a new log", c.log.checkpoint(1), 0);
        headIs(c, 1, 2, 1, 1, 2);
    }

    private static void checkpointOfTheNextInAFullLog() {
        due.by("(the next one to be written, if it is one that is not there yet)");
        Bench b = Bench.used(62);
        due.is("the first one", b.log.checkpoint(1), 0);
        due.is("used", b.log.count(3), 62);
        due.is("the next one", b.log.checkpoint(63), 62);
        headIs(b, 0, 3, 63, 63, 2);
        due.is("used", b.log.count(3), 0);
        due.is("restart", b.restart(), 0);
        due.is("next sector", b.log.count(4), 2);
        due.is("serial", b.log.count(5), 63);
    }

    private static void versionOneMore() {
        due.by("a head of a version 1 more");
        Bench b = new Bench();
        for (int version = 2; version < 6; version++) {
            b.log.checkpoint(1);
            due.is("version", b.log.count(9), version);
        }
        b.log.cut();
        b.layHead(0, 0x7FFFFFFF, 1, 1, 2);
        b.log.start();
        due.is("behind 2147483647", b.log.count(9), 0x80000000);
        b.log.checkpoint(1);
        due.is("behind 2147483648", b.log.count(9), 0x80000001);
    }

    private static void theOtherHead() {
        due.by("into that of the two sectors in which the latest good head is not");
        Bench b = new Bench();
        b.log.checkpoint(1);
        due.is("into 1", b.number(1, 0), 2);
        due.is("0 stays", b.number(0, 0), 1);
        b.log.checkpoint(1);
        due.is("into 0", b.number(0, 0), 3);
        due.is("1 stays", b.number(1, 0), 2);
        b.log.checkpoint(1);
        due.is("into 1", b.number(1, 0), 4);
        due.is("0 stays", b.number(0, 0), 3);
    }

    private static void theOtherHeadWasTorn() {
        due.by("into that of the two sectors in which the latest good head is not");
        Bench b = Bench.used(2);
        b.log.checkpoint(2);
        b.log.arm(0, 40);
        due.is("checkpoint, the power going", b.log.checkpoint(3), -2);
        due.is("0 is torn", b.log.torn(0), true);
        due.is("start by 1", b.log.start(), 1);
        headIs(b, 0, 3, 2, 2, 3);
        due.is("checkpoint", b.log.checkpoint(3), 1);
        headIs(b, 1, 4, 3, 3, 4);
    }

    private static void notUsedAnyMore() {
        due.by("Sectors before it are not used any more");
        Bench b = Bench.used(62);
        b.fill(90, 0);
        due.is("no room", b.log.append(), -1);
        due.is("one less than it needs", b.log.checkpoint(2), 1);
        due.is("no room yet", b.log.append(), -1);
        due.is("as many as it needs", b.log.checkpoint(3), 1);
        due.is("room", b.log.append(), 63);
        due.is("flush", b.log.flush(), 2);
        due.is("used", b.log.count(3), 62);
        due.is("record 2 is gone", b.log.size(2), -1);
        due.is("record 3 is there", b.log.at(3, 0), 3);
        due.is("restart", b.restart(), 61);
    }

    private static void stepsAreWritings() {
        due.by("STEPS are writings of a sector");
        Bench b = new Bench();
        b.append(43, 1);
        due.is("append", b.log.count(6), 0);
        b.log.flush();
        due.is("flush of two", b.log.count(6), 2);
        b.log.checkpoint(1);
        due.is("checkpoint", b.log.count(6), 3);
        b.log.checkpoint(9);
        due.is("checkpoint of none", b.log.count(6), 3);
        b.log.cut();
        due.is("cut", b.log.count(6), 3);
        b.log.poke(9, 9, 9);
        due.is("poke", b.log.count(6), 3);
        b.log.start();
        due.is("start", b.log.count(6), 4);
    }

    private static void armedWithNone() {
        due.by("n steps more are done");
        for (int n = 0; n <= 3; n++) {
            Bench b = new Bench();
            b.append(100, 1);
            b.log.arm(n, 1);
            due.is("flush of three, armed with " + n, b.log.flush(), n);
            due.is("on, armed with " + n, b.log.count(0), n < 3 ? 0 : 1);
            due.is("steps, armed with " + n, b.log.count(6), n);
        }
    }

    private static void armedOverHeadsAndSectors() {
        due.by("n steps more are done; of the next one just the first PART bytes are written");
        Bench b = new Bench();
        b.log.arm(3, 5);
        b.appendAndFlush(1, 1);
        due.is("checkpoint", b.log.checkpoint(1), 0);
        b.appendAndFlush(1, 2);
        due.is("on", b.log.count(0), 1);
        due.is("the fourth", b.log.checkpoint(2), -2);
        due.is("torn", b.log.torn(0), true);
        due.is("start", b.log.start(), 2);
    }

    private static void firstPartBytes() {
        due.by("just the first PART bytes are written (0 .. 63)");
        int[] want = Bench.sector(1, 48, 0, 1, Bench.record(42, 1, 200));
        int[] parts = {0, 1, 4, 16, 62, 63};
        for (int part : parts) {
            Bench b = new Bench();
            b.append(42, 200);
            b.log.arm(0, part);
            b.log.flush();
            for (int i = 0; i < 64; i++) {
                due.is("disk(2, " + i + "), part " + part, b.log.disk(2, i), i < part ? want[i] : 0);
            }
        }
    }

    private static void partOf0() {
        due.by("the sector is torn (if PART is not 0)");
        Bench b = Bench.used(1);
        b.log.arm(0, 0);
        due.is("checkpoint", b.log.checkpoint(2), -2);
        due.is("off", b.log.count(0), 0);
        due.is("torn(1)", b.log.torn(1), false);
        due.is("start", b.log.start(), 1);
        b.log.checkpoint(1);
        b.log.arm(0, 0);
        b.log.checkpoint(2);
        due.is("the head before it is good still", b.log.torn(1), false);
        due.is("start", b.log.start(), 1);
        due.is("version", b.log.count(9), 4);
    }

    private static void partOf63() {
        due.by("of the next one just the first PART bytes are written");
        Bench b = new Bench();
        b.append(1, 1);
        b.log.arm(0, 63);
        due.is("not written whole, though byte 63 is 0", b.log.flush(), 0);
        due.is("torn", b.log.torn(2), true);
        due.is("no step done", b.log.count(6), 0);
        due.is("no flush that wrote something whole", b.log.count(7), 0);
        due.is("start", b.log.start(), 0);
    }

    private static void powerTakesTheQueue() {
        due.by("the power is off: the queue is gone");
        Bench b = new Bench();
        b.append(1, 1);
        b.append(1, 2);
        b.log.arm(0, 0);
        b.log.checkpoint(1);
        due.is("start", b.log.start(), 0);
        due.is("records", b.log.count(1), 0);
        due.is("bytes", b.log.count(2), 0);
        due.is("ticks", b.log.count(8), -1);
        due.is("flush", b.log.flush(), 0);
        due.is("their numbers come anew", b.append(1, 1), 1);
    }

    private static void tapeAndDelayStay() {
        due.by("(tape and delay stay)");
        Bench b = new Bench();
        b.log.delay(3);
        b.append(1, 1);
        b.fill(2, 50);
        b.log.arm(0, 7);
        b.log.flush();
        b.log.start();
        due.is("the tape", b.log.append(), 1);
        due.is("its bytes", b.log.count(2), 8);
        due.is("the delay", b.log.tick(2), 0);
        due.is("the delay", b.log.tick(1), 1);
        due.is("byte 0", b.log.at(1, 0), 50);
        due.is("byte 1", b.log.at(1, 1), 51);
    }
}
