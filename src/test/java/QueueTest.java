/** Promises 1 to 6: a new object, delay, feed, append, flush and tick. */
public final class QueueTest {
    private static final Due due = new Due();

    public static void main(String[] args) {
        newObject();
        delay();
        feed();
        append();
        appendWithoutRoom();
        roomCountsTheQueueWhole();
        flush();
        flushAtMoreThan400();
        tick();
        tickWithOtherDelays();
        due.end();
    }

    private static void newObject() {
        GroupLog x = new GroupLog();
        int[] counts = {1, 0, 0, 0, 2, 1, 0, 0, -1, 1};
        for (int what = 0; what < counts.length; what++) {
            due.is("new: count(" + what + ")", x.count(what), counts[what]);
        }
        due.is("new: first()", x.first(), 1);
        due.is("new: safe()", x.safe(), 0);
        due.is("new: start()", x.start(), -1);
        int[] head = Bench.head(1, 1, 1, 2);
        for (int i = 0; i < 64; i++) {
            due.is("new: disk(0, " + i + ")", x.disk(0, i), i < 17 ? head[i] : 0);
            due.is("new: disk(1, " + i + ")", x.disk(1, i), 0);
            due.is("new: disk(63, " + i + ")", x.disk(63, i), 0);
        }
        x.feed(1);
        x.append();
        due.is("new: tick(9)", x.tick(9), 0);
        due.is("new: tick(1)", x.tick(1), 1);
    }

    private static void delay() {
        GroupLog x = new GroupLog();
        due.is("delay(0)", x.delay(0), false);
        due.is("delay(-1)", x.delay(-1), false);
        due.is("delay(1001)", x.delay(1001), false);
        due.is("delay(1)", x.delay(1), true);
        x.feed(1);
        x.append();
        due.is("delay 1: tick(1)", x.tick(1), 1);
        due.is("delay(1000)", x.delay(1000), true);
        x.feed(1);
        x.append();
        due.is("delay 1000: tick(999)", x.tick(999), 0);
        due.is("delay(1001) leaves it", x.delay(1001), false);
        due.is("delay 1000: tick(1)", x.tick(1), 1);
        x.delay(5);
        x.cut();
        due.is("delay(3) while off", x.delay(3), false);
        x.start();
        x.feed(1);
        x.append();
        due.is("the delay stays while off: tick(4)", x.tick(4), 0);
        due.is("the delay stays while off: tick(1)", x.tick(1), 1);
    }

    private static void feed() {
        Bench b = new Bench();
        due.is("feed(-1)", b.log.feed(-1), false);
        due.is("feed(256)", b.log.feed(256), false);
        due.is("feed(0)", b.log.feed(0), true);
        due.is("feed(255)", b.log.feed(255), true);
        b.fill(197, 2);
        due.is("feed 200th", b.log.feed(9), true);
        due.is("feed 201st", b.log.feed(9), false);
        due.is("append of 200", b.log.append(), 1);
        due.is("queue of 200", b.log.count(2), 206);
        b.log.flush();
        due.is("size", b.log.size(1), 200);
        due.is("byte 0", b.log.at(1, 0), 0);
        due.is("byte 1", b.log.at(1, 1), 255);
        due.is("byte 199", b.log.at(1, 199), 9);
        b.log.feed(4);
        b.log.cut();
        due.is("feed while off", b.log.feed(5), true);
        b.log.start();
        due.is("the tape stays", b.log.append(), 2);
        b.log.flush();
        due.is("tape of both", b.log.size(2), 2);
        due.is("tape byte 1", b.log.at(2, 1), 5);
    }

    private static void append() {
        Bench b = new Bench();
        due.is("append of an empty tape", b.log.append(), -1);
        due.is("append", b.append(3, 1), 1);
        due.is("the tape is empty then", b.log.append(), -1);
        due.is("append again", b.append(1, 1), 2);
        due.is("records in the queue", b.log.count(1), 2);
        due.is("bytes in the queue", b.log.count(2), 16);
        due.is("not safe yet", b.log.safe(), 0);
        b.log.flush();
        due.is("append behind a flush", b.append(1, 1), 3);
        b.log.cut();
        b.fill(2, 1);
        due.is("append while off", b.log.append(), -2);
        b.log.start();
        due.is("the queue is gone, its number comes anew", b.log.append(), 3);
        due.is("the tape stayed", b.log.count(2), 8);
        b.append(200, 0);
        b.log.arm(1, 0);
        due.is("append, the power going in the flush", b.append(200, 0), 5);
        due.is("it is off", b.log.count(0), 0);
        due.is("its tape is empty", b.log.append(), -2);
        b.log.start();
        due.is("its tape was empty", b.log.append(), -1);
    }

    /** 61 sectors are used by single bytes: one sector, 48 bytes, is left. */
    private static void appendWithoutRoom() {
        Bench b = new Bench();
        for (int r = 1; r <= 61; r++) {
            b.appendAndFlush(1, r);
        }
        due.is("used", b.log.count(3), 61);
        due.is("43 bytes need two sectors", b.append(43, 0), -1);
        due.is("the tape stays: none fits", b.log.append(), -1);
        due.is("the queue is as it was", b.log.count(1), 0);
        due.is("checkpoint makes room", b.log.checkpoint(2), 1);
        due.is("now there is room", b.log.append(), 62);
        due.is("47 more bytes fill the second sector", b.append(41, 0), 63);
        due.is("queue of two full sectors", b.log.count(2), 96);
        due.is("not one more", b.append(1, 0), -1);
        due.is("flush", b.log.flush(), 2);
        due.is("used, all", b.log.count(3), 62);
        due.is("the log is full", b.log.append(), -1);
        due.is("next is the first one", b.log.count(4), 3);
        due.is("checkpoint of all", b.log.checkpoint(64), 62);
        due.is("used, none", b.log.count(3), 0);
        due.is("room", b.log.append(), 64);
        due.is("flush goes on there", b.log.flush(), 1);
        due.is("next", b.log.count(4), 4);
        due.is("restart", b.restart(), 1);
        due.is("first", b.log.first(), 64);
    }

    private static void roomCountsTheQueueWhole() {
        Bench b = new Bench();
        for (int r = 1; r <= 61; r++) {
            b.appendAndFlush(1, r);
        }
        due.is("a record in the queue", b.append(20, 0), 62);
        due.is("with it 26 + 22 = 48", b.append(16, 0), 63);
        due.is("one byte more than 48", b.append(1, 0), -1);
        due.is("flush", b.log.flush(), 1);
    }

    private static void flush() {
        Bench b = new Bench();
        due.is("flush of nothing", b.log.flush(), 0);
        due.is("no step", b.log.count(6), 0);
        due.is("no flush", b.log.count(7), 0);
        b.append(42, 5);
        due.is("48 bytes in one sector", b.log.flush(), 1);
        due.is("safe", b.log.safe(), 1);
        due.is("queue empty", b.log.count(1) + b.log.count(2), 0);
        b.append(43, 5);
        due.is("49 bytes in two", b.log.flush(), 2);
        due.is("first of both is full", b.log.disk(3, 4), 48);
        due.is("the last is not", b.log.disk(4, 4), 1);
        due.is("none begins in it", b.log.disk(4, 5), 255);
        b.append(10, 1);
        b.append(50, 2);
        b.append(3, 3);
        due.is("16 + 56 + 9 bytes", b.log.flush(), 2);
        due.is("a sector of its own", b.log.disk(5, 5), 0);
        due.is("the third begins in the second", b.log.disk(6, 5), 72 - 48);
        due.is("its bytes", b.log.disk(6, 4), 81 - 48);
        due.is("steps", b.log.count(6), 5);
        due.is("flushes", b.log.count(7), 3);
        b.append(100, 0);
        b.log.arm(2, 7);
        due.is("flush, the power going", b.log.flush(), 2);
        due.is("flush while off", b.log.flush(), -2);
        due.is("a flush that wrote something whole", b.log.count(7), 4);
        due.is("steps done whole", b.log.count(6), 7);
    }

    private static void flushAtMoreThan400() {
        Bench b = new Bench();
        b.append(194, 0);
        b.append(194, 0);
        due.is("400 bytes wait", b.log.count(2), 400);
        due.is("append", b.append(1, 0), 3);
        due.is("407 do not", b.log.count(2), 0);
        due.is("safe", b.log.safe(), 3);
        due.is("used", b.log.count(3), 9);
        due.is("one flush", b.log.count(7), 1);
    }

    private static void tick() {
        Bench b = new Bench();
        due.is("tick(0)", b.log.tick(0), -1);
        due.is("tick(-5)", b.log.tick(-5), -1);
        due.is("tick(1001)", b.log.tick(1001), -1);
        due.is("tick of an empty queue", b.log.tick(1000), 0);
        due.is("no ticks", b.log.count(8), -1);
        b.append(1, 1);
        due.is("none yet", b.log.count(8), 0);
        b.log.tick(4);
        b.append(1, 2);
        due.is("the oldest counts", b.log.count(8), 4);
        due.is("tick(1000)", b.log.tick(1000), 1);
        due.is("both are safe", b.log.safe(), 2);
        due.is("none waits", b.log.count(8), -1);
        b.append(1, 3);
        due.is("it starts anew", b.log.count(8), 0);
        b.log.tick(9);
        b.log.flush();
        b.append(1, 4);
        due.is("anew behind a flush", b.log.tick(9), 0);
        b.log.arm(0, 30);
        due.is("tick, the power going in its flush", b.log.tick(5), 1);
        due.is("off", b.log.count(0), 0);
        due.is("tick while off", b.log.tick(1), -2);
        due.is("tick(0) while off", b.log.tick(0), -2);
    }

    private static void tickWithOtherDelays() {
        Bench b = new Bench();
        b.append(1, 1);
        b.log.tick(8);
        due.is("shorter", b.log.delay(5), true);
        due.is("no flush by it", b.log.count(1), 1);
        due.is("it waits too long already", b.log.tick(1), 1);
        b.append(1, 2);
        b.log.tick(4);
        b.log.delay(20);
        due.is("longer", b.log.tick(15), 0);
        due.is("ticks since", b.log.count(8), 19);
        due.is("longer, then", b.log.tick(1), 1);
    }
}
