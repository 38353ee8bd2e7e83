/** Each sentence of promises 1 to 18 that names a boundary case or a refused call, with its own test. */
public final class CallEdgesTest {
    private static final Due due = new Due();
    private static final int[] FAR = {Integer.MIN_VALUE, Integer.MIN_VALUE + 1, -1000000000, -256, -65, -1,
        1001, 65536, 1000000000, Integer.MAX_VALUE - 1, Integer.MAX_VALUE};

    public static void main(String[] args) {
        newObject();
        delayOf1To1000();
        delayRefused();
        delayWhileOff();
        feedOf0To255();
        feedOf200();
        feedWhileOff();
        appendNumbers();
        appendEmpty();
        appendWithoutRoom();
        appendWhileThePowerGoes();
        appendWhileOff();
        flushWholeSectors();
        flushWhileOff();
        tickOf1To1000();
        tickOneByOne();
        tickWhileThePowerGoes();
        tickWhileOff();
        checkpointOfASafeOne();
        checkpointOfTheNextOne();
        checkpointOfNone();
        checkpointOfWhatMayGo();
        checkpointOfWhatMayGoAndIsThere();
        checkpointWhileThePowerGoes();
        checkpointWhileOff();
        cutTwice();
        armOf0To100();
        armPartOf0To63();
        armRefused();
        armWhileOff();
        armGoesWithThePower();
        startWhileOn();
        startWithoutAGoodHead();
        startFromTheHeadsFirstOn();
        firstThatIsThere();
        firstOfAnEmptyLog();
        lastSafe();
        safeWhenThereIsNone();
        sizeOfThoseThere();
        atOfThoseThere();
        atOfTheLastByte();
        diskOfNone();
        diskOfATornSector();
        diskWhileOff();
        pokeMasks();
        pokeOfNone();
        pokeWhileOn();
        tornOfNone();
        counts();
        countOfFlushes();
        countOfTicks();
        countsWhileOff();
        countOfAnotherNumber();
        last512Calls();
        due.end();
    }

    private static Bench off() {
        Bench b = Bench.used(2);
        b.log.cut();
        return b;
    }

    private static void newObject() {
        due.by("An empty log; power on, delay 10");
        GroupLog x = new GroupLog();
        int[] counts = {1, 0, 0, 0, 2, 1, 0, 0, -1, 1};
        for (int what = 0; what < counts.length; what++) {
            due.is("count(" + what + ")", x.count(what), counts[what]);
        }
        due.is("first()", x.first(), 1);
        due.is("safe()", x.safe(), 0);
        due.is("size(1)", x.size(1), -1);
        due.is("append()", x.append(), -1);
        x.feed(1);
        x.append();
        due.is("tick(9)", x.tick(9), 0);
        due.is("tick(1)", x.tick(1), 1);
    }

    private static void delayOf1To1000() {
        due.by("The delay is so many ticks (1 .. 1000)");
        int[] delays = {1, 2, 999, 1000};
        for (int d : delays) {
            Bench b = new Bench();
            due.is("delay(" + d + ")", b.log.delay(d), true);
            b.append(1, 1);
            due.is("one less than " + d, d == 1 ? 0 : b.log.tick(d - 1), 0);
            due.is("as many as " + d, b.log.tick(1), 1);
        }
    }

    private static void delayRefused() {
        due.by("delay .. False: not such");
        Bench b = new Bench();
        b.log.delay(2);
        due.is("delay(0)", b.log.delay(0), false);
        for (int d : FAR) {
            due.is("delay(" + d + ")", b.log.delay(d), false);
        }
        b.append(1, 1);
        due.is("it is as it was", b.log.tick(1), 0);
        due.is("it is as it was", b.log.tick(1), 1);
    }

    private static void delayWhileOff() {
        due.by("delay .. False: .. the power is off");
        Bench b = new Bench();
        b.log.delay(2);
        b.log.cut();
        due.is("delay(5)", b.log.delay(5), false);
        b.log.start();
        b.append(1, 1);
        due.is("it is as it was", b.log.tick(2), 1);
    }

    private static void feedOf0To255() {
        due.by("A byte (0 .. 255) comes behind the TAPE; False: not such");
        Bench b = new Bench();
        due.is("feed(-1)", b.log.feed(-1), false);
        due.is("feed(256)", b.log.feed(256), false);
        for (int f : FAR) {
            due.is("feed(" + f + ")", b.log.feed(f), false);
        }
        due.is("the tape is empty still", b.log.append(), -1);
        due.is("feed(0)", b.log.feed(0), true);
        due.is("feed(255)", b.log.feed(255), true);
        due.is("append", b.log.append(), 1);
        b.log.flush();
        due.is("size", b.log.size(1), 2);
        due.is("byte 0", b.log.at(1, 0), 0);
        due.is("byte 1", b.log.at(1, 1), 255);
    }

    private static void feedOf200() {
        due.by("comes behind the TAPE, 200 at most; False: no room");
        Bench b = new Bench();
        for (int i = 0; i < 200; i++) {
            due.is("byte " + i, b.log.feed(i), true);
        }
        due.is("the 201st", b.log.feed(7), false);
        due.is("append", b.log.append(), 1);
        due.is("room again", b.log.feed(8), true);
        b.log.flush();
        due.is("size", b.log.size(1), 200);
        due.is("the last", b.log.at(1, 199), 199);
    }

    private static void feedWhileOff() {
        due.by("feed .. False: not such, no room");
        Bench b = new Bench();
        b.log.cut();
        for (int i = 0; i < 200; i++) {
            due.is("off, byte " + i, b.log.feed(5), true);
        }
        due.is("off, the 201st", b.log.feed(5), false);
        due.is("off, none such", b.log.feed(256), false);
        b.log.start();
        due.is("append", b.log.append(), 1);
    }

    private static void appendNumbers() {
        due.by("The tape, which is empty then, is appended as a record: its number");
        Bench b = new Bench();
        due.is("append", b.append(1, 1), 1);
        due.is("the tape is empty", b.log.append(), -1);
        due.is("append", b.append(1, 1), 2);
        due.is("bytes", b.log.count(2), 14);
        b.log.flush();
        due.is("behind a flush", b.append(1, 1), 3);
    }

    private static void appendEmpty() {
        due.by("NONE, the tape staying: it is empty");
        Bench b = new Bench();
        due.is("append", b.log.append(), -1);
        due.is("nothing is queued", b.log.count(1), 0);
        due.is("no number is lost", b.append(1, 1), 1);
    }

    private static void appendWithoutRoom() {
        due.by("NONE, the tape staying: .. there is no room");
        Bench b = Bench.used(62);
        b.fill(3, 40);
        due.is("append", b.log.append(), -1);
        due.is("append again", b.log.append(), -1);
        due.is("feed", b.log.feed(43), true);
        b.log.checkpoint(62);
        due.is("with room", b.log.append(), 63);
        b.log.flush();
        due.is("size", b.log.size(63), 4);
        due.is("byte 0", b.log.at(63, 0), 40);
        due.is("byte 3", b.log.at(63, 3), 43);
    }

    private static void appendWhileThePowerGoes() {
        due.by("its number (also when the power went in a flush)");
        for (int steps = 0; steps < 9; steps++) {
            Bench b = new Bench();
            b.append(200, 1);
            b.log.arm(steps, 9);
            due.is("append, " + steps + " steps", b.append(200, 2), 2);
            due.is("off", b.log.count(0), 0);
            due.is("start", b.log.start(), steps < 5 ? 0 : 1);
            due.is("the tape is empty", b.log.append(), -1);
        }
    }

    private static void appendWhileOff() {
        due.by("append .. OFF");
        Bench b = off();
        due.is("with an empty tape", b.log.append(), -2);
        b.fill(1, 1);
        due.is("with a byte", b.log.append(), -2);
        b.log.start();
        due.is("the tape stays", b.log.append(), 3);
    }

    private static void flushWholeSectors() {
        due.by("how many sectors were written whole");
        Bench b = new Bench();
        due.is("none", b.log.flush(), 0);
        b.append(42, 1);
        due.is("one", b.log.flush(), 1);
        b.append(43, 1);
        due.is("two", b.log.flush(), 2);
        b.append(200, 1);
        due.is("five", b.log.flush(), 5);
        b.append(43, 1);
        b.log.arm(1, 63);
        due.is("one of two, the power going", b.log.flush(), 1);
        b.log.start();
        b.append(43, 1);
        b.log.arm(0, 63);
        due.is("none of two, the power going", b.log.flush(), 0);
    }

    private static void flushWhileOff() {
        due.by("flush .. OFF");
        due.is("flush", off().log.flush(), -2);
    }

    private static void tickOf1To1000() {
        due.by("So many ticks (1 .. 1000) pass; NONE: not such");
        Bench b = new Bench();
        b.log.delay(1000);
        b.append(1, 1);
        due.is("tick(0)", b.log.tick(0), -1);
        for (int t : FAR) {
            due.is("tick(" + t + ")", b.log.tick(t), -1);
        }
        due.is("none passed", b.log.count(8), 0);
        due.is("tick(1)", b.log.tick(1), 0);
        due.is("one passed", b.log.count(8), 1);
        due.is("tick(1000)", b.log.tick(1000), 1);
        due.is("tick(1000), none waiting", b.log.tick(1000), 0);
    }

    private static void tickOneByOne() {
        due.by("So many ticks pass, one by one: how many flushes came");
        Bench b = new Bench();
        b.log.delay(1);
        b.append(1, 1);
        b.append(1, 2);
        due.is("one flush for both", b.log.tick(1000), 1);
        due.is("flushes", b.log.count(7), 1);
        b.append(100, 1);
        due.is("one flush of three sectors", b.log.tick(1), 1);
        due.is("used", b.log.count(3), 4);
        due.is("no record, no flush", b.log.tick(1000), 0);
        due.is("ticks without a record are not kept", b.append(1, 3), 4);
        due.is("none yet", b.log.count(8), 0);
    }

    private static void tickWhileThePowerGoes() {
        due.by("how many flushes came");
        Bench b = new Bench();
        b.append(43, 1);
        b.log.arm(1, 9);
        due.is("it came, and the power went in it", b.log.tick(10), 1);
        due.is("off", b.log.count(0), 0);
        Bench c = new Bench();
        c.append(43, 1);
        c.log.arm(0, 9);
        due.is("ticks before it", c.log.tick(9), 0);
        due.is("on", c.log.count(0), 1);
        due.is("it came, though nothing was written whole", c.log.tick(1), 1);
        due.is("off", c.log.count(0), 0);
    }

    private static void tickWhileOff() {
        due.by("tick .. OFF");
        due.is("tick(1)", off().log.tick(1), -2);
        due.is("tick(1000)", off().log.tick(1000), -2);
    }

    private static void checkpointOfASafeOne() {
        due.by("A CHECKPOINT by a record (safe, ..): how many sectors are not used any more");
        Bench b = Bench.used(5);
        due.is("of the first", b.log.checkpoint(1), 0);
        due.is("of the second", b.log.checkpoint(2), 1);
        due.is("of the last", b.log.checkpoint(5), 3);
        due.is("of it again", b.log.checkpoint(5), 0);
        due.is("used", b.log.count(3), 1);
    }

    private static void checkpointOfTheNextOne() {
        due.by("(.. or the next number behind the last safe one)");
        Bench b = Bench.used(2);
        due.is("one behind it", b.log.checkpoint(4), -1);
        b.append(1, 3);
        b.append(1, 4);
        due.is("one behind it, in the queue", b.log.checkpoint(4), -1);
        due.is("the next", b.log.checkpoint(3), 2);
        due.is("the next again", b.log.checkpoint(3), 0);
        due.is("the queue stays", b.log.count(1), 2);
        due.is("flush", b.log.flush(), 1);
        due.is("both are there", b.log.first(), 3);
        due.is("restart", b.restart(), 2);
    }

    private static void checkpointOfNone() {
        due.by("checkpoint .. NONE: there is no such");
        Bench b = Bench.used(2);
        due.is("checkpoint(0)", b.log.checkpoint(0), -1);
        for (int r : FAR) {
            due.is("checkpoint(" + r + ")", b.log.checkpoint(r), -1);
        }
        due.is("nothing is written", b.log.count(6), 2);
        due.is("version", b.log.count(9), 1);
        due.is("used", b.log.count(3), 2);
    }

    private static void checkpointOfWhatMayGo() {
        due.by("checkpoint .. NONE: .. it may go already");
        Bench b = Bench.used(3);
        b.log.checkpoint(3);
        due.is("its sector is given up", b.log.checkpoint(2), -1);
        due.is("the first one of all", b.log.checkpoint(1), -1);
        due.is("nothing is written", b.log.count(9), 2);
        b.restart();
        due.is("behind a start", b.log.checkpoint(2), -1);
        due.is("the first that may not", b.log.checkpoint(3), 0);
    }

    /** Both records begin in one sector, so the first is there as long as the second is. */
    private static void checkpointOfWhatMayGoAndIsThere() {
        due.by("all before it may go; checkpoint .. NONE: .. it may go already");
        Bench b = new Bench();
        b.append(1, 1);
        b.append(1, 2);
        b.log.flush();
        due.is("of the second", b.log.checkpoint(2), 0);
        due.is("the first is there", b.log.size(1), 1);
        due.is("but it may go already", b.log.checkpoint(1), -1);
        due.is("nothing is written", b.log.count(9), 2);
        due.is("of the second again", b.log.checkpoint(2), 0);
    }

    private static void checkpointWhileThePowerGoes() {
        due.by("checkpoint .. OFF (also when the power went)");
        int[] parts = {0, 1, 63};
        for (int part : parts) {
            Bench b = Bench.used(2);
            b.log.arm(0, part);
            due.is("checkpoint, part " + part, b.log.checkpoint(3), -2);
            due.is("off", b.log.count(0), 0);
            due.is("start", b.log.start(), 2);
            due.is("used", b.log.count(3), 2);
        }
    }

    private static void checkpointWhileOff() {
        due.by("checkpoint .. OFF");
        due.is("checkpoint(2)", off().log.checkpoint(2), -2);
        due.is("checkpoint(3)", off().log.checkpoint(3), -2);
    }

    private static void cutTwice() {
        due.by("The power goes. False: it is off");
        Bench b = new Bench();
        due.is("cut", b.log.cut(), true);
        due.is("cut again", b.log.cut(), false);
        b.log.start();
        due.is("cut behind a start", b.log.cut(), true);
        Bench c = new Bench();
        c.append(1, 1);
        c.log.arm(0, 0);
        c.log.flush();
        due.is("cut behind an armed step", c.log.cut(), false);
    }

    private static void armOf0To100() {
        due.by("Armed: n (0 .. 100) steps more");
        Bench b = new Bench();
        due.is("arm(0, 1)", b.log.arm(0, 1), true);
        due.is("the next one", b.log.checkpoint(1), -2);
        Bench c = new Bench();
        due.is("arm(100, 1)", c.log.arm(100, 1), true);
        for (int n = 0; n < 100; n++) {
            due.is("step " + n, c.log.checkpoint(1), 0);
        }
        due.is("the 101st", c.log.checkpoint(1), -2);
        due.is("start", c.log.start(), 0);
        due.is("it is armed no more", c.log.checkpoint(1), 0);
    }

    private static void armPartOf0To63() {
        due.by("Armed: .. then part (0 .. 63) bytes");
        int[] parts = {0, 1, 62, 63};
        for (int part : parts) {
            Bench b = new Bench();
            b.append(42, 1);
            due.is("arm(0, " + part + ")", b.log.arm(0, part), true);
            b.log.flush();
            due.is("the last byte of the part", part == 0 ? 0 : b.log.disk(2, part - 1), part < 2 ? 0 : part - 22);
            due.is("the one behind it", b.log.disk(2, part), 0);
        }
    }

    private static void armRefused() {
        due.by("arm .. False: not such");
        Bench b = new Bench();
        due.is("arm(-1, 0)", b.log.arm(-1, 0), false);
        due.is("arm(101, 0)", b.log.arm(101, 0), false);
        due.is("arm(0, -1)", b.log.arm(0, -1), false);
        due.is("arm(0, 64)", b.log.arm(0, 64), false);
        for (int f : FAR) {
            due.is("arm(" + f + ", 0)", b.log.arm(f, 0), false);
            due.is("arm(0, " + f + ")", b.log.arm(0, f), false);
        }
        due.is("nothing is armed", b.log.checkpoint(1), 0);
        b.log.arm(1, 9);
        b.log.arm(101, 0);
        due.is("what was armed stays", b.log.checkpoint(1), 0);
        due.is("what was armed stays", b.log.checkpoint(1), -2);
        due.is("its part too", b.log.torn(1), true);
    }

    private static void armWhileOff() {
        due.by("arm .. False: .. off");
        Bench b = off();
        due.is("arm(0, 0)", b.log.arm(0, 0), false);
        due.is("start", b.log.start(), 2);
        due.is("nothing is armed", b.log.checkpoint(1), 0);
    }

    private static void armGoesWithThePower() {
        due.by("The power can be ARMED");
        Bench b = Bench.used(1);
        b.log.arm(0, 9);
        b.log.cut();
        due.is("start", b.log.start(), 1);
        due.is("on", b.log.count(0), 1);
        due.is("checkpoint", b.log.checkpoint(1), 0);
    }

    private static void startWhileOn() {
        due.by("start .. NONE: the power is on");
        Bench b = Bench.used(1);
        b.append(1, 1);
        due.is("start", b.log.start(), -1);
        due.is("nothing is written", b.log.count(6), 1);
        due.is("the queue stays", b.log.count(1), 1);
    }

    private static void startWithoutAGoodHead() {
        due.by("start .. OFF: no head is good (it stays off)");
        Bench b = Bench.used(1);
        b.log.checkpoint(1);
        b.log.cut();
        b.log.poke(0, 2, 1);
        b.log.poke(1, 2, 1);
        due.is("start", b.log.start(), -2);
        due.is("off", b.log.count(0), 0);
        due.is("nothing is written", b.log.count(6), 2);
        due.is("start again", b.log.start(), -2);
        due.is("cut", b.log.cut(), false);
        due.is("poke", b.log.poke(0, 2, 1), true);
        due.is("by the mended one", b.log.start(), 1);
        due.is("its version", b.log.count(9), 2);
    }

    private static void startFromTheHeadsFirstOn() {
        due.by("how many records are safe (from the head's first on)");
        Bench b = new Bench();
        due.is("none", b.restart(), 0);
        for (int r = 1; r <= 4; r++) {
            b.append(30, r);
        }
        b.log.flush();
        due.is("all", b.restart(), 4);
        // Record 2 begins in the sector of record 1, record 3 in the next one.
        b.log.checkpoint(2);
        due.is("all that begin with the second", b.restart(), 4);
        b.log.checkpoint(3);
        due.is("from the third on", b.restart(), 2);
        b.log.checkpoint(5);
        due.is("none", b.restart(), 0);
    }

    private static void firstThatIsThere() {
        due.by("The number of the first record that is there");
        Bench b = new Bench();
        b.append(1, 1);
        due.is("one waits", b.log.first(), 1);
        b.log.flush();
        due.is("one is there", b.log.first(), 1);
        b.append(1, 2);
        b.append(1, 3);
        b.log.flush();
        b.log.checkpoint(3);
        due.is("2 begins where 3 does", b.log.first(), 2);
        b.restart();
        due.is("behind a start", b.log.first(), 2);
        b.log.cut();
        due.is("off", b.log.first(), -2);
    }

    private static void firstOfAnEmptyLog() {
        due.by("(of a log without any the next one)");
        Bench b = new Bench();
        due.is("new", b.log.first(), 1);
        b.append(1, 1);
        b.append(1, 2);
        b.log.flush();
        b.log.checkpoint(3);
        due.is("all may go", b.log.first(), 3);
        b.restart();
        due.is("behind a start", b.log.first(), 3);
        b.append(1, 3);
        due.is("while it waits", b.log.first(), 3);
        b.log.flush();
        due.is("it is there", b.log.first(), 3);
    }

    private static void lastSafe() {
        due.by("The number of the last safe record");
        Bench b = new Bench();
        b.append(1, 1);
        due.is("it waits", b.log.safe(), 0);
        b.log.flush();
        due.is("it is safe", b.log.safe(), 1);
        b.append(1, 2);
        b.restart();
        due.is("what waited is gone", b.log.safe(), 1);
        b.log.cut();
        due.is("off", b.log.safe(), -2);
    }

    private static void safeWhenThereIsNone() {
        due.by("(0, or one less than the first, when there is none)");
        Bench b = new Bench();
        due.is("new", b.log.safe(), 0);
        b.appendAndFlush(1, 1);
        b.appendAndFlush(1, 2);
        b.log.checkpoint(3);
        due.is("all may go", b.log.safe(), 2);
        due.is("first", b.log.first(), 3);
        b.restart();
        due.is("behind a start", b.log.safe(), 2);
        b.log.cut();
        b.log.poke(0, 9, 1);
        b.log.start();
        due.is("by the head before it", b.log.safe(), 2);
    }

    private static void sizeOfThoseThere() {
        due.by("How many bytes a safe record has that is there. NONE: none such");
        Bench b = Bench.used(3);
        b.append(9, 1);
        b.log.checkpoint(2);
        int[] sizes = {-1, -1, 1, 1, -1, -1};
        for (int r = 0; r < sizes.length; r++) {
            due.is("size(" + r + ")", b.log.size(r), sizes[r]);
        }
        for (int r : FAR) {
            due.is("size(" + r + ")", b.log.size(r), -1);
        }
        b.log.flush();
        due.is("it is safe now", b.log.size(4), 9);
        b.log.cut();
        due.is("off", b.log.size(4), -2);
    }

    private static void atOfThoseThere() {
        due.by("Byte i of it, as it stands on the disk. NONE: none such");
        Bench b = Bench.used(3);
        b.append(9, 1);
        b.log.checkpoint(2);
        int[] bytes = {-1, -1, 2, 3, -1, -1};
        for (int r = 0; r < bytes.length; r++) {
            due.is("at(" + r + ", 0)", b.log.at(r, 0), bytes[r]);
        }
        for (int f : FAR) {
            due.is("at(" + f + ", 0)", b.log.at(f, 0), -1);
            due.is("at(2, " + f + ")", b.log.at(2, f), -1);
        }
        b.log.cut();
        due.is("off", b.log.at(2, 0), -2);
    }

    private static void atOfTheLastByte() {
        due.by("Byte i of it .. NONE: none such");
        int[] sizes = {1, 42, 43, 200};
        for (int size : sizes) {
            Bench b = new Bench();
            b.append(size, 50);
            b.append(5, 1);
            b.log.flush();
            due.is("byte -1", b.log.at(1, -1), -1);
            due.is("byte 0", b.log.at(1, 0), 50);
            due.is("the last of " + size, b.log.at(1, size - 1), (49 + size) & 255);
            due.is("behind the last of " + size, b.log.at(1, size), -1);
        }
    }

    private static void diskOfNone() {
        due.by("Byte i of a sector. NONE: none such");
        GroupLog x = new GroupLog();
        due.is("disk(0, 12)", x.disk(0, 12), 2);
        due.is("disk(64, 0)", x.disk(64, 0), -1);
        due.is("disk(0, 64)", x.disk(0, 64), -1);
        for (int f : FAR) {
            due.is("disk(" + f + ", 0)", x.disk(f, 0), -1);
            due.is("disk(0, " + f + ")", x.disk(0, f), -1);
        }
    }

    private static void diskOfATornSector() {
        due.by("Byte i of a sector (torn or not)");
        Bench b = Bench.used(1);
        b.append(1, 2);
        b.log.arm(0, 5);
        b.log.flush();
        due.is("torn", b.log.torn(3), true);
        due.is("in its part", b.log.disk(3, 4), 7);
        b.log.start();
        due.is("behind a start", b.log.disk(3, 4), 7);
    }

    private static void diskWhileOff() {
        due.by("disk .. NONE: none such");
        Bench b = off();
        due.is("disk(3, 3)", b.log.disk(3, 3), 2);
        due.is("disk(64, 3)", b.log.disk(64, 3), -1);
    }

    private static void pokeMasks() {
        due.by("A byte of a sector is changed where mask (1 .. 255) has bits, while the power is off");
        Bench b = off();
        due.is("mask 0", b.log.poke(3, 3, 0), false);
        due.is("mask 256", b.log.poke(3, 3, 256), false);
        for (int f : FAR) {
            due.is("mask " + f, b.log.poke(3, 3, f), false);
        }
        due.is("as it was", b.log.disk(3, 3), 2);
        due.is("mask 1", b.log.poke(3, 3, 1), true);
        due.is("changed", b.log.disk(3, 3), 3);
        due.is("mask 255", b.log.poke(3, 3, 255), true);
        due.is("changed", b.log.disk(3, 3), 252);
        due.is("no other", b.log.disk(3, 4), 7);
    }

    private static void pokeOfNone() {
        due.by("poke .. False: none such");
        Bench b = off();
        due.is("poke(64, 0, 1)", b.log.poke(64, 0, 1), false);
        due.is("poke(0, 64, 1)", b.log.poke(0, 64, 1), false);
        for (int f : FAR) {
            due.is("poke(" + f + ", 0, 1)", b.log.poke(f, 0, 1), false);
            due.is("poke(0, " + f + ", 1)", b.log.poke(0, f, 1), false);
        }
        due.is("poke(63, 63, 1)", b.log.poke(63, 63, 1), true);
        due.is("poke(0, 63, 1)", b.log.poke(0, 63, 1), true);
        due.is("start", b.log.start(), 2);
    }

    private static void pokeWhileOn() {
        due.by("poke .. False: .. it is on");
        Bench b = Bench.used(1);
        due.is("poke(2, 22, 1)", b.log.poke(2, 22, 1), false);
        due.is("as it was", b.log.at(1, 0), 1);
    }

    private static void tornOfNone() {
        due.by("Whether a sector is torn");
        Bench b = new Bench();
        b.append(1, 1);
        b.log.arm(0, 1);
        b.log.flush();
        due.is("torn(2)", b.log.torn(2), true);
        due.is("torn(64)", b.log.torn(64), false);
        due.is("torn(66)", b.log.torn(66), false);
        for (int f : FAR) {
            due.is("torn(" + f + ")", b.log.torn(f), false);
        }
        b.log.poke(2, 0, 255);
        due.is("poked", b.log.torn(2), true);
        b.log.poke(5, 0, 255);
        due.is("a poke tears none", b.log.torn(5), false);
        Bench c = new Bench();
        c.log.checkpoint(1);
        c.log.arm(0, 9);
        c.log.checkpoint(1);
        due.is("torn(0)", c.log.torn(0), true);
        due.is("torn(64)", c.log.torn(64), false);
        due.is("torn(-1)", c.log.torn(-1), false);
    }

    private static void counts() {
        due.by("0 whether the power is on (1 or 0), 1 records in the queue .. 9 the version of the latest good head");
        Bench b = new Bench();
        b.append(43, 1);
        b.log.flush();
        b.log.checkpoint(1);
        b.log.checkpoint(1);
        b.append(5, 1);
        b.append(6, 1);
        b.append(7, 1);
        b.log.tick(4);
        int[] want = {1, 3, 36, 2, 4, 3, 4, 1, 4, 3};
        for (int what = 0; what < want.length; what++) {
            due.is("count(" + what + ")", b.log.count(what), want[what]);
        }
    }

    private static void countOfFlushes() {
        due.by("7 flushes that wrote something whole");
        Bench b = new Bench();
        b.log.flush();
        due.is("of nothing", b.log.count(7), 0);
        b.append(43, 1);
        b.log.arm(0, 63);
        b.log.flush();
        due.is("a part of one sector", b.log.count(7), 0);
        b.log.start();
        due.is("a start is none", b.log.count(7), 0);
        b.append(43, 1);
        b.log.arm(1, 0);
        b.log.flush();
        due.is("one of two sectors", b.log.count(7), 1);
        b.log.start();
        b.append(43, 1);
        b.log.flush();
        due.is("both", b.log.count(7), 2);
        b.append(1, 1);
        b.log.tick(10);
        due.is("by a tick", b.log.count(7), 3);
        b.log.checkpoint(1);
        due.is("a checkpoint is none", b.log.count(7), 3);
        Bench c = new Bench();
        c.append(200, 1);
        c.append(200, 1);
        due.is("by an append", c.log.count(7), 1);
    }

    private static void countOfTicks() {
        due.by("8 ticks since the oldest in the queue came (NONE: none)");
        Bench b = new Bench();
        due.is("none", b.log.count(8), -1);
        b.log.tick(3);
        due.is("none still", b.log.count(8), -1);
        b.append(1, 1);
        due.is("0", b.log.count(8), 0);
        b.log.tick(9);
        due.is("9", b.log.count(8), 9);
        b.log.tick(1);
        due.is("none behind its flush", b.log.count(8), -1);
    }

    private static void countsWhileOff() {
        due.by("While it is off 1 to 5, 8, 9 are OFF");
        Bench b = Bench.used(2);
        b.append(1, 1);
        b.log.cut();
        int[] want = {0, -2, -2, -2, -2, -2, 2, 2, -2, -2};
        for (int what = 0; what < want.length; what++) {
            due.is("count(" + what + ")", b.log.count(what), want[what]);
        }
    }

    private static void countOfAnotherNumber() {
        due.by("count .. NONE: another number");
        GroupLog x = new GroupLog();
        for (int times = 0; times < 2; times++) {
            due.is("count(-1)", x.count(-1), -1);
            due.is("count(10)", x.count(10), -1);
            for (int f : FAR) {
                due.is("count(" + f + ")", x.count(f), -1);
            }
            x.cut();
        }
    }

    private static void last512Calls() {
        due.by("An object is used for at most 512 calls");
        GroupLog x = new GroupLog();
        // 100 times 5 calls, and 7 more: 507.
        for (int r = 1; r <= 100; r++) {
            due.is("feed " + r, x.feed(r), true);
            due.is("append " + r, x.append(), r);
            due.is("flush " + r, x.flush(), 1);
            due.is("at " + r, x.at(r, 0), r);
            due.is("checkpoint " + r, x.checkpoint(r + 1), 1);
        }
        due.is("next sector", x.count(4), 2 + 100 % 62);
        due.is("serial", x.count(5), 101);
        due.is("used", x.count(3), 0);
        due.is("version", x.count(9), 101);
        due.is("cut", x.cut(), true);
        due.is("start", x.start(), 0);
        due.is("first", x.first(), 101);
    }
}
