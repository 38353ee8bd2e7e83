/** Promises 7, 8, 11 to 14 and 18: checkpoint, cut, first, safe, size, at and count. */
public final class CheckpointTest {
    private static final Due due = new Due();

    public static void main(String[] args) {
        wrongRecords();
        sectorsGoNotRecords();
        whatMayGoAlready();
        nextRecord();
        records();
        goingRound();
        powerGoesInCheckpoint();
        cut();
        count();
        due.end();
    }

    private static void wrongRecords() {
        Bench b = new Bench();
        due.is("checkpoint(0)", b.log.checkpoint(0), -1);
        due.is("checkpoint(2)", b.log.checkpoint(2), -1);
        due.is("checkpoint(-1)", b.log.checkpoint(-1), -1);
        due.is("checkpoint(max)", b.log.checkpoint(Integer.MAX_VALUE), -1);
        due.is("checkpoint(min)", b.log.checkpoint(Integer.MIN_VALUE), -1);
        due.is("nothing was written", b.log.count(6), 0);
        due.is("checkpoint(1)", b.log.checkpoint(1), 0);
        b.append(1, 1);
        b.append(1, 2);
        due.is("in the queue, but the next one", b.log.checkpoint(1), 0);
        due.is("in the queue", b.log.checkpoint(2), -1);
        b.log.cut();
        due.is("off", b.log.checkpoint(1), -2);
        due.is("off, and wrong", b.log.checkpoint(7), -2);
    }

    /** Records 1 and 2 begin in sector 2, 3 and 4 in sector 3. */
    private static Bench twoSectors() {
        Bench b = new Bench();
        b.append(10, 1);
        b.append(30, 2);
        b.append(10, 3);
        b.append(10, 4);
        b.log.flush();
        return b;
    }

    private static void sectorsGoNotRecords() {
        Bench b = twoSectors();
        due.is("checkpoint(4)", b.log.checkpoint(4), 1);
        due.is("first", b.log.first(), 3);
        due.is("used", b.log.count(3), 1);
        due.is("its number", b.number(1, 8), 3);
        due.is("its serial", b.number(1, 4), 2);
        due.is("its place", b.log.disk(1, 12), 3);
        due.is("record 3 is there", b.log.size(3), 10);
        due.is("record 2 is not", b.log.size(2), -1);
        due.is("restart", b.restart(), 2);
        due.is("first", b.log.first(), 3);
        due.is("record 3", b.log.at(3, 0), 3);
        due.is("record 4", b.log.at(4, 9), 13);
    }

    private static void whatMayGoAlready() {
        Bench b = twoSectors();
        due.is("checkpoint(2)", b.log.checkpoint(2), 0);
        due.is("record 1 is there", b.log.first(), 1);
        due.is("it may go already", b.log.checkpoint(1), -1);
        due.is("checkpoint(2) again", b.log.checkpoint(2), 0);
        due.is("versions", b.log.count(9), 3);
        due.is("checkpoint(3)", b.log.checkpoint(3), 1);
        due.is("it is gone", b.log.checkpoint(2), -1);
        due.is("checkpoint(4)", b.log.checkpoint(4), 0);
        due.is("3 may go already", b.log.checkpoint(3), -1);
        due.is("restart", b.restart(), 2);
        due.is("the head knows of 3", b.log.checkpoint(3), 0);
    }

    private static void nextRecord() {
        Bench b = twoSectors();
        b.append(5, 5);
        due.is("checkpoint(5)", b.log.checkpoint(5), 2);
        due.is("first", b.log.first(), 5);
        due.is("safe", b.log.safe(), 4);
        due.is("used", b.log.count(3), 0);
        due.is("size", b.log.size(4), -1);
        due.is("size in the queue", b.log.size(5), -1);
        due.is("flush", b.log.flush(), 1);
        due.is("size", b.log.size(5), 5);
        due.is("restart", b.restart(), 1);
        due.is("checkpoint(6)", b.log.checkpoint(6), 1);
        due.is("restart", b.restart(), 0);
        due.is("first", b.log.first(), 6);
        due.is("safe", b.log.safe(), 5);
        due.is("next sector", b.log.count(4), 5);
        due.is("next serial", b.log.count(5), 4);
    }

    private static void records() {
        Bench b = twoSectors();
        int[] sizes = {-1, 10, 30, 10, 10, -1};
        for (int r = 0; r < sizes.length; r++) {
            due.is("size(" + r + ")", b.log.size(r), sizes[r]);
            for (int i = -1; i <= Math.max(0, sizes[r]); i++) {
                int want = sizes[r] == -1 || i < 0 || i >= sizes[r] ? -1 : r + i;
                due.is("at(" + r + ", " + i + ")", b.log.at(r, i), want);
            }
        }
        due.is("size(min)", b.log.size(Integer.MIN_VALUE), -1);
        due.is("size(max)", b.log.size(Integer.MAX_VALUE), -1);
        due.is("at(1, max)", b.log.at(1, Integer.MAX_VALUE), -1);
        due.is("at(1, min)", b.log.at(1, Integer.MIN_VALUE), -1);
        b.log.cut();
        due.is("first off", b.log.first(), -2);
        due.is("safe off", b.log.safe(), -2);
        due.is("size off", b.log.size(1), -2);
        due.is("size off, none", b.log.size(9), -2);
        due.is("at off", b.log.at(1, 0), -2);
        due.is("at off, none", b.log.at(1, 99), -2);
    }

    private static void goingRound() {
        Bench b = new Bench();
        for (int r = 1; r <= 62; r++) {
            b.appendAndFlush(1, r);
        }
        due.is("full", b.log.count(3), 62);
        due.is("checkpoint(60)", b.log.checkpoint(60), 59);
        b.append(90, 200);
        due.is("flush round the end", b.log.flush(), 2);
        due.is("used", b.log.count(3), 5);
        due.is("next", b.log.count(4), 4);
        due.is("serial", b.log.count(5), 65);
        due.is("bytes", b.log.at(63, 89), 289 & 255);
        due.is("restart", b.restart(), 4);
        due.is("safe", b.log.safe(), 63);
        due.is("bytes", b.log.at(63, 89), 289 & 255);
        due.is("checkpoint(63)", b.log.checkpoint(63), 3);
        due.is("used", b.log.count(3), 2);
    }

    private static void powerGoesInCheckpoint() {
        Bench b = twoSectors();
        b.log.arm(0, 12);
        due.is("checkpoint", b.log.checkpoint(5), -2);
        due.is("off", b.log.count(0), 0);
        due.is("start", b.log.start(), 4);
        due.is("first", b.log.first(), 1);
        due.is("used", b.log.count(3), 2);
    }

    private static void cut() {
        Bench b = new Bench();
        b.append(3, 3);
        due.is("cut", b.log.cut(), true);
        due.is("cut again", b.log.cut(), false);
        due.is("off", b.log.count(0), 0);
        due.is("start", b.log.start(), 0);
        due.is("the queue is gone", b.log.count(1), 0);
        due.is("its bytes too", b.log.count(2), 0);
        due.is("none waits", b.log.count(8), -1);
        due.is("nothing was written", b.log.disk(2, 4), 0);
    }

    private static void count() {
        Bench b = twoSectors();
        b.append(3, 3);
        b.append(3, 3);
        b.log.tick(2);
        int[] on = {1, 2, 18, 2, 4, 3, 2, 1, 2, 1};
        int[] off = {0, -2, -2, -2, -2, -2, 2, 1, -2, -2};
        for (int what = 0; what < 10; what++) {
            due.is("count(" + what + ")", b.log.count(what), on[what]);
        }
        due.is("count(-1)", b.log.count(-1), -1);
        due.is("count(10)", b.log.count(10), -1);
        b.log.cut();
        for (int what = 0; what < 10; what++) {
            due.is("off: count(" + what + ")", b.log.count(what), off[what]);
        }
        due.is("off: count(-1)", b.log.count(-1), -1);
        due.is("off: count(10)", b.log.count(10), -1);
    }
}
