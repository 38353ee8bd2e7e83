/** Promises 15 to 17 and 9: disk, poke, torn, arm, and what stands in the sectors. */
public final class DiskTest {
    private static final Due due = new Due();

    public static void main(String[] args) {
        wrongPlaces();
        poke();
        logSectors();
        heads();
        tornSector();
        partOfNothing();
        armedSteps();
        armIsAnewEachTime();
        armGoesWithThePower();
        due.end();
    }

    private static void wrongPlaces() {
        GroupLog x = new GroupLog();
        int[][] wrong = {{-1, 0}, {64, 0}, {0, -1}, {0, 64}, {Integer.MAX_VALUE, 0}, {0, Integer.MIN_VALUE}};
        for (int[] w : wrong) {
            due.is("disk(" + w[0] + ", " + w[1] + ")", x.disk(w[0], w[1]), -1);
        }
        x.cut();
        for (int[] w : wrong) {
            due.is("poke(" + w[0] + ", " + w[1] + ", 1)", x.poke(w[0], w[1], 1), false);
        }
        due.is("torn(-1)", x.torn(-1), false);
        due.is("torn(64)", x.torn(64), false);
        due.is("torn(0)", x.torn(0), false);
        due.is("disk(63, 63)", x.disk(63, 63), 0);
    }

    private static void poke() {
        GroupLog x = new GroupLog();
        due.is("poke while on", x.poke(9, 9, 1), false);
        due.is("unchanged", x.disk(9, 9), 0);
        x.cut();
        due.is("poke mask 0", x.poke(9, 9, 0), false);
        due.is("poke mask 256", x.poke(9, 9, 256), false);
        due.is("poke mask -1", x.poke(9, 9, -1), false);
        due.is("poke", x.poke(9, 9, 255), true);
        due.is("poked", x.disk(9, 9), 255);
        due.is("poke", x.poke(9, 9, 1), true);
        due.is("poked", x.disk(9, 9), 254);
        due.is("poke of the last byte", x.poke(63, 63, 3), true);
        due.is("poked", x.disk(63, 63), 3);
        due.is("poke tears nothing", x.torn(9), false);
    }

    private static void logSectors() {
        Bench b = new Bench();
        b.append(45, 7);
        b.append(2, 3);
        b.append(60, 100);
        due.is("flush", b.log.flush(), 3);
        int[] all = Bench.join(Bench.record(45, 1, 7), Bench.record(2, 2, 3), Bench.record(60, 3, 100));
        same(b, 2, Bench.sector(1, 48, 0, 1, Bench.cutOut(all, 0, 48)));
        same(b, 3, Bench.sector(2, 48, 3, 1, Bench.cutOut(all, 48, 96)));
        same(b, 4, Bench.sector(3, all.length - 96, 255, 1, Bench.cutOut(all, 96, all.length)));
    }

    private static void heads() {
        Bench b = new Bench();
        b.appendAndFlush(1, 1);
        b.log.checkpoint(1);
        same(b, 1, Bench.head(2, 1, 1, 2));
        b.log.checkpoint(2);
        same(b, 0, Bench.head(3, 2, 2, 3));
        same(b, 1, Bench.head(2, 1, 1, 2));
        b.restart();
        same(b, 1, Bench.head(4, 2, 2, 3));
        b.appendAndFlush(1, 9);
        same(b, 3, Bench.sector(2, 7, 0, 4, Bench.record(1, 2, 9)));
    }

    private static void same(Bench b, int sector, int[] want) {
        for (int i = 0; i < want.length; i++) {
            due.is("disk(" + sector + ", " + i + ")", b.log.disk(sector, i), want[i]);
        }
    }

    private static void tornSector() {
        Bench b = new Bench();
        b.append(20, 50);
        b.log.arm(0, 20);
        due.is("flush", b.log.flush(), 0);
        int[] want = Bench.sector(1, 26, 0, 1, Bench.record(20, 1, 50));
        for (int i = 0; i < 64; i++) {
            due.is("part: disk(2, " + i + ")", b.log.disk(2, i), i < 20 ? want[i] : 0);
        }
        due.is("torn", b.log.torn(2), true);
        due.is("no other", b.log.torn(3), false);
        due.is("start", b.log.start(), 0);
        due.is("torn still", b.log.torn(2), true);
        b.appendAndFlush(3, 1);
        due.is("written whole", b.log.torn(2), false);
        due.is("restart", b.restart(), 1);
        b.log.arm(0, 63);
        due.is("checkpoint", b.log.checkpoint(2), -2);
        due.is("a torn head", b.log.torn(1), true);
        due.is("start by the other one", b.log.start(), 1);
        due.is("written anew, whole", b.log.torn(1), false);
    }

    private static void partOfNothing() {
        Bench b = new Bench();
        b.append(20, 50);
        b.log.arm(0, 0);
        due.is("flush", b.log.flush(), 0);
        due.is("off", b.log.count(0), 0);
        due.is("nothing is torn", b.log.torn(2), false);
        due.is("nothing is written", b.log.disk(2, 4), 0);
        b.log.start();
        b.append(20, 50);
        b.log.arm(0, 1);
        b.log.flush();
        b.log.start();
        b.append(20, 50);
        b.log.arm(0, 0);
        b.log.flush();
        due.is("what was torn stays so", b.log.torn(2), true);
    }

    private static void armedSteps() {
        Bench b = new Bench();
        due.is("arm(-1, 0)", b.log.arm(-1, 0), false);
        due.is("arm(101, 0)", b.log.arm(101, 0), false);
        due.is("arm(0, -1)", b.log.arm(0, -1), false);
        due.is("arm(0, 64)", b.log.arm(0, 64), false);
        b.append(1, 1);
        due.is("wrong ones arm nothing", b.log.flush(), 1);
        due.is("arm(100, 63)", b.log.arm(100, 63), true);
        for (int step = 0; step < 100; step++) {
            due.is("step " + step, b.log.checkpoint(1), 0);
        }
        due.is("the step behind them", b.log.checkpoint(1), -2);
        due.is("off", b.log.count(0), 0);
        due.is("steps", b.log.count(6), 101);
        due.is("arm while off", b.log.arm(0, 0), false);
        due.is("start", b.log.start(), 1);
        due.is("steps", b.log.count(6), 102);
        due.is("not armed any more", b.log.checkpoint(1), 0);
        b.log.arm(1, 5);
        b.append(90, 1);
        due.is("in the midst of a flush", b.log.flush(), 1);
        due.is("sector", b.log.torn(4), true);
    }

    private static void armIsAnewEachTime() {
        Bench b = new Bench();
        b.log.arm(0, 9);
        b.log.arm(2, 9);
        due.is("first", b.log.checkpoint(1), 0);
        due.is("second", b.log.checkpoint(1), 0);
        due.is("third", b.log.checkpoint(1), -2);
    }

    private static void armGoesWithThePower() {
        Bench b = new Bench();
        b.log.arm(0, 9);
        due.is("restart", b.restart(), 0);
        due.is("on", b.log.count(0), 1);
        b.append(1, 1);
        due.is("flush", b.log.flush(), 1);
    }
}
