import java.util.Random;

/** Runs of at most 512 calls, chosen by chance from fixed seeds, against the model. */
public final class ModelTest {
    private static final int RUNS = 20000;
    private static final int MOST_CALLS = 512;
    private static final Due due = new Due();

    private final GroupLog log = new GroupLog();
    private final Model model = new Model();
    private final Random random;
    private final StringBuilder told = new StringBuilder();
    private final int mostFed;
    private final int roughness;
    private int calls = 0;

    private ModelTest(long seed) {
        random = new Random(seed);
        int[] sizes = {2, 12, 60, 200};
        mostFed = sizes[random.nextInt(sizes.length)];
        roughness = random.nextInt(4);
        told.append("seed ").append(seed).append(": ");
    }

    public static void main(String[] args) {
        int long1 = 0;
        for (int run = 0; run < RUNS && due.allRight(); run++) {
            ModelTest t = new ModelTest(run);
            t.run();
            long1 += t.calls;
            if (!due.allRight()) {
                System.out.println(t.told);
            }
        }
        System.out.println(long1 + " calls");
        due.end();
    }

    private boolean goesOn() {
        return calls < MOST_CALLS && due.allRight();
    }

    private void is(String call, long got, long want) {
        // What later calls answer is free.
        if (calls >= MOST_CALLS) {
            return;
        }
        calls++;
        told.append(call).append('=').append(want).append(' ');
        due.is(call, got, want);
    }

    private void is(String call, boolean got, boolean want) {
        is(call, got ? 1 : 0, want ? 1 : 0);
    }

    private boolean chance(int percent) {
        return random.nextInt(100) < percent;
    }

    private void run() {
        while (goesOn()) {
            if (model.on) {
                whileOn();
            } else {
                whileOff();
            }
            if (chance(30)) {
                look();
            }
        }
    }

    private void whileOn() {
        int w = random.nextInt(100);
        if (w < 40) {
            feedAndAppend();
        } else if (w < 60) {
            is("flush", log.flush(), model.flush());
        } else if (w < 68) {
            int ticks = chance(10) ? random.nextInt(2000) - 500 : random.nextInt(12);
            is("tick(" + ticks + ")", log.tick(ticks), model.tick(ticks));
        } else if (w < 70) {
            int ticks = chance(20) ? random.nextInt(2000) - 500 : random.nextInt(20);
            is("delay(" + ticks + ")", log.delay(ticks), model.delay(ticks));
        } else if (w < 80) {
            int record = someRecord();
            is("checkpoint(" + record + ")", log.checkpoint(record), model.checkpoint(record));
        } else if (w < 80 + 3 * roughness) {
            int n = chance(5) ? random.nextInt(200) - 50 : random.nextInt(4);
            int part = chance(5) ? random.nextInt(200) - 50 : random.nextInt(64);
            is("arm(" + n + ", " + part + ")", log.arm(n, part), model.arm(n, part));
        } else if (w < 82 + 4 * roughness) {
            is("cut", log.cut(), model.cut());
        } else if (w < 95) {
            int record = someRecord();
            is("size(" + record + ")", log.size(record), model.size(record));
        } else if (w < 96) {
            is("start", log.start(), model.start());
        } else {
            is("poke", log.poke(5, 5, 1), model.poke(5, 5, 1));
        }
    }

    private int someRecord() {
        int from = model.first();
        int to = model.safe() + 1;
        return chance(8) ? from - 2 + random.nextInt(to - from + 6) : from + random.nextInt(to - from + 1);
    }

    private void feedAndAppend() {
        int many = 1 + random.nextInt(1 + random.nextInt(mostFed));
        for (int i = 0; i < many && goesOn(); i++) {
            int b = chance(1) ? random.nextInt(600) - 100 : chance(50) ? random.nextInt(3) : random.nextInt(256);
            is("feed(" + b + ")", log.feed(b), model.feed(b));
        }
        is("append", log.append(), model.append());
    }

    private void whileOff() {
        int w = random.nextInt(100);
        if (w < 45) {
            is("start", log.start(), model.start());
        } else if (w < 55) {
            poke(random.nextInt(70) - 3, random.nextInt(70) - 3, random.nextInt(260));
        } else if (w < 80 && roughness > 0) {
            craftLog();
        } else if (w < 86 && roughness > 0) {
            craftHead();
        } else if (w < 88) {
            is("cut", log.cut(), model.cut());
        } else if (w < 90) {
            is("append", log.append(), model.append());
        } else if (w < 92) {
            is("feed", log.feed(1), model.feed(1));
        } else if (w < 93) {
            is("flush", log.flush(), model.flush());
            is("tick", log.tick(1), model.tick(1));
            is("checkpoint", log.checkpoint(1), model.checkpoint(1));
            is("arm", log.arm(1, 1), model.arm(1, 1));
            is("delay", log.delay(1), model.delay(1));
        }
    }

    private void poke(int sector, int i, int mask) {
        is("poke(" + sector + ", " + i + ", " + mask + ")", log.poke(sector, i, mask), model.poke(sector, i, mask));
    }

    private void change(int sector, int i, int to) {
        int mask = model.disk[sector][i] ^ to;
        if (mask != 0) {
            poke(sector, i, mask);
        }
    }

    private void change4(int sector, int i, int to) {
        for (int k = 0; k < 4; k++) {
            change(sector, i + k, to >>> (24 - 8 * k) & 255);
        }
    }

    /** Changes a field or a byte of a sector of the log that is likely to be read, and mends its sum. */
    private void craftLog() {
        int head = model.latest();
        int place = head < 0 ? 2 : model.disk[head][12];
        int away = random.nextInt(1 + random.nextInt(8));
        int sector = 2 + (place - 2 + away) % 62;
        int[] s = model.disk[sector];
        int w = random.nextInt(10);
        if (w < 2) {
            change(sector, 4, chance(70) ? random.nextInt(49) : chance(50) ? 0 : 49);
        } else if (w < 4) {
            change(sector, 5, chance(40) ? 0 : chance(40) ? 255 : random.nextInt(50));
        } else if (w < 5) {
            change4(sector, 10, chance(50) ? random.nextInt(4) : random.nextInt());
        } else if (w < 6) {
            int serial = Model.number(model.disk[Math.max(0, head)], 4) + away;
            change4(sector, 0, chance(70) ? serial : random.nextInt());
        } else if (w < 8) {
            change(sector, 16 + random.nextInt(Math.max(1, Math.min(48, s[4]))), random.nextInt(4));
        } else {
            craftRecord(sector, head, away);
        }
        if (chance(95)) {
            change4(sector, 6, Model.logSum(model.disk[sector]));
        }
    }

    /** A sector with a small record, or its beginning, that could be read. */
    private void craftRecord(int sector, int head, int away) {
        int[] h = model.disk[Math.max(0, head)];
        int at = chance(60) ? 0 : random.nextInt(5);
        int many = chance(50) ? at + 6 + random.nextInt(3) : at + random.nextInt(12);
        change4(sector, 0, Model.number(h, 4) + away);
        change(sector, 4, many);
        change(sector, 5, chance(80) ? at : 255);
        change4(sector, 10, 1);
        change(sector, 16 + at, chance(95) ? 0 : 1);
        change(sector, 17 + at, random.nextInt(4));
        change4(sector, 18 + at, Model.number(h, 8) + random.nextInt(1 + away));
    }

    private void craftHead() {
        int sector = random.nextInt(2);
        int w = random.nextInt(6);
        if (w == 0) {
            change4(sector, 0, chance(50) ? random.nextInt(5) : random.nextInt());
        } else if (w == 1) {
            change4(sector, 4, chance(50) ? random.nextInt(8) : -random.nextInt(4));
        } else if (w == 2) {
            change4(sector, 8, chance(50) ? random.nextInt(8) : 999999999 + random.nextInt(3));
        } else if (w == 3) {
            change(sector, 12, random.nextInt(67));
        } else {
            change4(sector, 0, Model.number(model.disk[sector], 0) + 2);
        }
        if (chance(90)) {
            change4(sector, 13, Model.headSum(model.disk[sector]));
        }
    }

    private void look() {
        int w = random.nextInt(8);
        if (w < 2) {
            int sector = chance(50) ? random.nextInt(67) - 1 : Math.max(0, model.nextPlace - 1);
            int i = random.nextInt(67) - 1;
            is("disk(" + sector + ", " + i + ")", log.disk(sector, i), model.disk(sector, i));
        } else if (w < 3) {
            int sector = chance(50) ? random.nextInt(67) - 1 : model.nextPlace;
            is("torn(" + sector + ")", log.torn(sector), model.torn(sector));
        } else if (w < 4) {
            is("first", log.first(), model.first());
            is("safe", log.safe(), model.safe());
        } else if (w < 6 && model.on) {
            int record = someRecord();
            int i = random.nextInt(Math.max(1, model.size(record)) + 2) - 1;
            is("at(" + record + ", " + i + ")", log.at(record, i), model.at(record, i));
        } else {
            int what = random.nextInt(12) - 1;
            is("count(" + what + ")", log.count(what), model.count(what));
        }
    }
}
