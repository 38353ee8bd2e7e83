import java.util.ArrayList;
import java.util.Arrays;
import java.util.List;
import java.util.TreeMap;
import java.util.zip.CRC32;

/** The document once more, by other means: lists, maps and the library, two passes at a start. */
final class Model {
    final int[][] disk = new int[64][64];
    final boolean[] torn = new boolean[64];
    private final TreeMap<Integer, int[]> safe = new TreeMap<>();
    private final TreeMap<Integer, Integer> beginsIn = new TreeMap<>();
    private final List<Integer> tape = new ArrayList<>();
    private final List<int[]> queue = new ArrayList<>();
    boolean on = true;
    private int delay = 10;
    private int age;
    private int steps;
    private int flushes;
    private Integer left;
    private int part;
    private int kept = 1;
    private int nextNumber = 1;
    private final List<Integer> usedPlaces = new ArrayList<>();
    int nextPlace = 2;
    private int nextSerial = 1;

    Model() {
        disk[0] = headBytes(1, 1, 1, 2);
    }

    static int number(int[] s, int i) {
        return s[i] << 24 | s[i + 1] << 16 | s[i + 2] << 8 | s[i + 3];
    }

    static void number(int[] s, int i, int n) {
        for (int k = 3; k >= 0; k--) {
            s[i + k] = n & 255;
            n >>>= 8;
        }
    }

    static int headSum(int[] s) {
        CRC32 c = new CRC32();
        for (int i = 0; i < 13; i++) {
            c.update(s[i]);
        }
        return (int) c.getValue();
    }

    static int logSum(int[] s) {
        CRC32 c = new CRC32();
        for (int i = 0; i < 64; i++) {
            if (i < 6 || i > 9) {
                c.update(s[i]);
            }
        }
        return (int) c.getValue();
    }

    private static int[] headBytes(int version, int serial, int record, int place) {
        int[] s = new int[64];
        number(s, 0, version);
        number(s, 4, serial);
        number(s, 8, record);
        s[12] = place;
        number(s, 13, headSum(s));
        return s;
    }

    private boolean good(int h) {
        int[] s = disk[h];
        int record = number(s, 8);
        return !torn[h] && number(s, 13) == headSum(s) && number(s, 0) != 0
            && record > 0 && record <= 1000000000 && s[12] > 1 && s[12] < 64;
    }

    int latest() {
        if (!good(0)) {
            return good(1) ? 1 : -1;
        }
        return good(1) && Integer.compareUnsigned(number(disk[1], 0), number(disk[0], 0)) > 0 ? 1 : 0;
    }

    private void off() {
        on = false;
        queue.clear();
        age = 0;
        left = null;
    }

    private boolean step(int place, int[] bytes) {
        if (left != null && left == 0) {
            System.arraycopy(bytes, 0, disk[place], 0, part);
            torn[place] |= part != 0;
            off();
            return false;
        }
        left = left == null ? null : Integer.valueOf(left - 1);
        disk[place] = bytes;
        torn[place] = false;
        steps++;
        return true;
    }

    private static int after(int place) {
        return place == 63 ? 2 : place + 1;
    }

    boolean delay(int ticks) {
        if (!on || ticks < 1 || ticks > 1000) {
            return false;
        }
        delay = ticks;
        return true;
    }

    boolean feed(int b) {
        return b >= 0 && b < 256 && tape.size() < 200 && tape.add(b);
    }

    private int queueBytes() {
        return queue.stream().mapToInt(q -> q.length).sum();
    }

    int append() {
        if (!on) {
            return -2;
        }
        int bytes = queueBytes() + 6 + tape.size();
        if (tape.isEmpty() || (bytes + 47) / 48 > 62 - usedPlaces.size()) {
            return -1;
        }
        int[] r = new int[6 + tape.size()];
        r[1] = tape.size();
        number(r, 2, nextNumber);
        for (int i = 0; i < tape.size(); i++) {
            r[6 + i] = tape.get(i);
        }
        tape.clear();
        if (queue.isEmpty()) {
            age = 0;
        }
        queue.add(r);
        int answer = nextNumber++;
        if (bytes > 400) {
            flush();
        }
        return answer;
    }

    int flush() {
        if (!on) {
            return -2;
        }
        List<Integer> bytes = new ArrayList<>();
        List<Boolean> begin = new ArrayList<>();
        for (int[] r : queue) {
            for (int i = 0; i < r.length; i++) {
                bytes.add(r[i]);
                begin.add(i == 0);
            }
        }
        int whole = 0;
        TreeMap<Integer, Integer> newPlaces = new TreeMap<>();
        for (int at = 0; at < bytes.size(); at += 48) {
            int many = Math.min(48, bytes.size() - at);
            int[] s = new int[64];
            number(s, 0, nextSerial);
            s[4] = many;
            s[5] = begin.subList(at, at + many).indexOf(true) & 255;
            number(s, 10, number(disk[latest()], 0));
            for (int i = 0; i < many; i++) {
                s[16 + i] = bytes.get(at + i);
                if (begin.get(at + i)) {
                    newPlaces.put(number(bytes, at + i + 2), nextPlace);
                }
            }
            number(s, 6, logSum(s));
            if (!step(nextPlace, s)) {
                break;
            }
            whole++;
            usedPlaces.add(nextPlace);
            nextPlace = after(nextPlace);
            nextSerial++;
        }
        flushes += whole > 0 ? 1 : 0;
        if (on) {
            for (int[] r : queue) {
                safe.put(number(r, 2), Arrays.copyOfRange(r, 6, r.length));
            }
            beginsIn.putAll(newPlaces);
            queue.clear();
        }
        return whole;
    }

    private static int number(List<Integer> b, int i) {
        return b.get(i) << 24 | b.get(i + 1) << 16 | b.get(i + 2) << 8 | b.get(i + 3);
    }

    int tick(int ticks) {
        if (!on) {
            return -2;
        }
        if (ticks < 1 || ticks > 1000) {
            return -1;
        }
        int came = 0;
        for (int t = 0; t < ticks; t++) {
            age++;
            if (on && !queue.isEmpty() && age >= delay) {
                came++;
                flush();
            }
        }
        return came;
    }

    private int nextSafe() {
        return nextNumber - queue.size();
    }

    int checkpoint(int record) {
        if (!on) {
            return -2;
        }
        if (record < kept || record > nextSafe()) {
            return -1;
        }
        boolean isNext = record == nextSafe();
        int place = isNext ? nextPlace : beginsIn.get(record);
        int keep = record;
        while (!isNext && beginsIn.containsKey(keep - 1) && beginsIn.get(keep - 1) == place) {
            keep--;
        }
        int latest = latest();
        int serial = isNext ? nextSerial : number(disk[place], 0);
        if (!step(1 - latest, headBytes(number(disk[latest], 0) + 1, serial, keep, place))) {
            return -2;
        }
        int gone = isNext ? usedPlaces.size() : usedPlaces.indexOf(place);
        usedPlaces.subList(0, gone).clear();
        safe.headMap(keep).clear();
        beginsIn.headMap(keep).clear();
        kept = record;
        return gone;
    }

    boolean cut() {
        boolean was = on;
        off();
        return was;
    }

    boolean arm(int n, int bytes) {
        if (!on || n < 0 || n > 100 || bytes < 0 || bytes > 63) {
            return false;
        }
        left = n;
        part = bytes;
        return true;
    }

    int start() {
        if (on) {
            return -1;
        }
        int head = latest();
        if (head < 0) {
            return -2;
        }
        on = true;
        int[] h = disk[head].clone();
        List<Integer> places = readable(h[12], number(h, 4));
        tell(places, h);
        step(1 - head, headBytes(number(h, 0) + 1, number(h, 4), number(h, 8), h[12]));
        return safe.size();
    }

    /** Pass 1: which sectors may be read; the records are walked by their sizes alone, whatever these are. */
    private List<Integer> readable(int place, int serial) {
        List<Integer> places = new ArrayList<>();
        List<Integer> begun = new ArrayList<>();
        int version = 0;
        for (int k = 0; k < 62; k++) {
            int[] s = disk[place];
            boolean ok = !torn[place] && number(s, 6) == logSum(s) && s[4] <= 48 && number(s, 0) == serial + k
                && Integer.compareUnsigned(number(s, 10), version) >= 0;
            if (!ok || !fits(s, begun, k == 0)) {
                return places;
            }
            if (k == 0 || s[5] == 0) {
                begun.clear();
            }
            for (int i = k == 0 ? s[5] : 0; i < s[4]; i++) {
                begun.add(s[16 + i]);
                if (begun.size() >= 6 && begun.size() == 6 + (begun.get(0) << 8 | begun.get(1))) {
                    begun.clear();
                }
            }
            version = number(s, 10);
            places.add(place);
            place = after(place);
        }
        return places;
    }

    private static boolean fits(int[] s, List<Integer> begun, boolean isFirst) {
        if (isFirst) {
            return s[5] < s[4];
        }
        if (begun.isEmpty()) {
            return s[5] == 0;
        }
        List<Integer> looked = new ArrayList<>(begun);
        for (int i = 0; i < s[4]; i++) {
            looked.add(s[16 + i]);
        }
        looked.add(0);
        looked.add(0);
        int lacks = 6 + (looked.get(0) << 8 | looked.get(1)) - begun.size();
        return s[5] == 0 || s[5] == (lacks < s[4] ? lacks : 255);
    }

    /** Pass 2: the records in these sectors. */
    private void tell(List<Integer> places, int[] h) {
        safe.clear();
        beginsIn.clear();
        usedPlaces.clear();
        nextNumber = number(h, 8);
        kept = nextNumber;
        nextPlace = h[12];
        nextSerial = number(h, 4);
        List<Integer> begun = new ArrayList<>();
        int beginPlace = 0;
        for (int k = 0; k < places.size(); k++) {
            int[] s = disk[places.get(k)];
            if (s[5] == 0) {
                begun.clear();
            }
            for (int i = k == 0 ? s[5] : 0; i < s[4]; i++) {
                if (begun.isEmpty()) {
                    beginPlace = places.get(k);
                }
                begun.add(s[16 + i]);
                if (begun.size() < 6) {
                    continue;
                }
                int size = begun.get(0) << 8 | begun.get(1);
                if (size < 1 || size > 200 || number(begun, 2) != nextNumber) {
                    return;
                }
                if (begun.size() == 6 + size) {
                    safe.put(nextNumber, begun.subList(6, 6 + size).stream().mapToInt(b -> b).toArray());
                    beginsIn.put(nextNumber++, beginPlace);
                    begun.clear();
                    usedPlaces.clear();
                    usedPlaces.addAll(places.subList(0, k + 1));
                    nextPlace = after(places.get(k));
                    nextSerial = number(s, 0) + 1;
                }
            }
        }
    }

    int first() {
        return !on ? -2 : safe.isEmpty() ? nextSafe() : safe.firstKey();
    }

    int safe() {
        return !on ? -2 : nextSafe() - 1;
    }

    int size(int record) {
        return !on ? -2 : safe.containsKey(record) ? safe.get(record).length : -1;
    }

    int at(int record, int i) {
        return !on ? -2 : i >= 0 && i < size(record) ? safe.get(record)[i] : -1;
    }

    int disk(int sector, int i) {
        return sector < 0 || sector > 63 || i < 0 || i > 63 ? -1 : disk[sector][i];
    }

    boolean poke(int sector, int i, int mask) {
        if (on || disk(sector, i) < 0 || mask < 1 || mask > 255) {
            return false;
        }
        disk[sector][i] ^= mask;
        return true;
    }

    boolean torn(int sector) {
        return sector >= 0 && sector < 64 && torn[sector];
    }

    int count(int what) {
        if (what < 0 || what > 9) {
            return -1;
        }
        if (!on && what != 0 && what != 6 && what != 7) {
            return -2;
        }
        int latest = latest();
        int[] all = {on ? 1 : 0, queue.size(), queueBytes(), usedPlaces.size(), nextPlace, nextSerial, steps, flushes,
            queue.isEmpty() ? -1 : age, latest < 0 ? 0 : number(disk[latest], 0)};
        return all[what];
    }
}
