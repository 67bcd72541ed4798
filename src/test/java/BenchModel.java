import java.util.ArrayList;
import java.util.List;

/**
 * The document told a second time, as plainly as the Java library allows and with nothing kept that
 * can be reckoned: what FluxBench answers is held against this.
 */
final class BenchModel {
    private static final int[][] DIGITS = new int[16][];

    static {
        int[] numbers = {10, 11, 18, 19, 14, 15, 22, 23, 9, 25, 26, 27, 13, 29, 30, 21};
        for (int v = 0; v < 16; v++) {
            DIGITS[v] = digits(numbers[v], 5);
        }
    }

    private static final int[] MARK = {1, 0, 0, 0, 0, 1, 0, 0, 0, 1};

    static final class Cell {
        int bit;
        int width;
        boolean weak;
        int dirt;
        int readAsDirty;
    }

    static final class OneTurn {
        List<Integer> cells = new ArrayList<>();
        double period;
    }

    static final class OneSector {
        int place;
        int number;
        int count;
        int sum;
        boolean good;
        List<Integer> data = new ArrayList<>();
    }

    static final class Look {
        List<OneSector> sectors = new ArrayList<>();
        int strays;
        boolean cut;

        int good() {
            int n = 0;
            for (OneSector s : sectors) {
                n += s.good ? 1 : 0;
            }
            return n;
        }
    }

    static final class OneTrack {
        int code;
        List<Cell> row = new ArrayList<>();
        List<Integer> written = new ArrayList<>();
        List<OneTurn> turns = new ArrayList<>();
        int reads;
    }

    final List<OneTrack> tracks = new ArrayList<>();
    int speed = 8;
    int draw = 0;
    int reads = 0;
    int plain = 0;
    int raw = 0;

    private static int[] digits(int value, int count) {
        int[] made = new int[count];
        for (int i = 0; i < count; i++) {
            made[count - 1 - i] = (value >> i) % 2;
        }
        return made;
    }

    private OneTrack get(int track) {
        if (track < 0 || track >= tracks.size()) {
            throw new IndexOutOfBoundsException();
        }
        return tracks.get(track);
    }

    private static void argument(boolean isRight) {
        if (!isRight) {
            throw new IllegalArgumentException();
        }
    }

    private static void state(boolean isRight) {
        if (!isRight) {
            throw new IllegalStateException();
        }
    }

    private static void place(boolean isRight) {
        if (!isRight) {
            throw new IndexOutOfBoundsException();
        }
    }

    int track(int code) {
        argument(code >= 0 && code <= 2);
        state(tracks.size() < 4);
        OneTrack t = new OneTrack();
        t.code = code;
        tracks.add(t);
        return tracks.size() - 1;
    }

    int speed(int newSpeed) {
        argument(newSpeed >= 6 && newSpeed <= 11);
        int before = speed;
        speed = newSpeed;
        return before;
    }

    private static void put(OneTrack t, int bit, int width) {
        Cell c = new Cell();
        c.bit = bit;
        c.width = width;
        t.row.add(c);
    }

    private static void putMark(OneTrack t, int width) {
        for (int bit : MARK) {
            put(t, bit, width);
        }
        t.written.clear();
    }

    private static void putByte(OneTrack t, int value, int width) {
        if (t.code == 2) {
            for (int bit : DIGITS[value / 16]) {
                put(t, bit, width);
            }
            for (int bit : DIGITS[value % 16]) {
                put(t, bit, width);
            }
            return;
        }
        for (int bit : digits(value, 8)) {
            int ahead = t.written.isEmpty() ? 0 : t.written.get(t.written.size() - 1);
            put(t, t.code == 0 ? 1 : bit == 0 && ahead == 0 ? 1 : 0, width);
            put(t, bit, width);
            t.written.add(bit);
        }
    }

    private static void putSector(OneTrack t, int number, List<Integer> data, boolean right, int width) {
        putMark(t, width);
        putByte(t, number, width);
        putByte(t, data.size(), width);
        int sum = number + data.size();
        for (int d : data) {
            putByte(t, d, width);
            sum += d;
        }
        putByte(t, (sum + (right ? 0 : 1)) % 256, width);
        put(t, 1, width);
    }

    private static int byteLong(int code) {
        return code == 2 ? 10 : 16;
    }

    private static int sectorLong(int code, int count) {
        return 10 + byteLong(code) * (3 + count) + 1;
    }

    int write(int track, int value) {
        OneTrack t = get(track);
        argument(value >= 0 && value <= 255);
        state(t.row.size() + byteLong(t.code) <= 400);
        putByte(t, value, speed);
        return t.row.size();
    }

    int mark(int track) {
        OneTrack t = get(track);
        state(t.row.size() + 10 <= 400);
        putMark(t, speed);
        return t.row.size();
    }

    int sector(int track, int number, int count, int data, boolean isRight) {
        OneTrack t = get(track);
        argument(number >= 0 && number <= 255 && count >= 1 && count <= 4 && data >= 0);
        state(t.row.size() + sectorLong(t.code, count) <= 400);
        List<Integer> bytes = new ArrayList<>();
        int rest = data;
        for (int i = 0; i < count; i++) {
            bytes.add(rest % 256);
            rest = rest / 256;
        }
        putSector(t, number, bytes, isRight, speed);
        return t.row.size();
    }

    private static Cell cell(OneTrack t, int place) {
        place(place >= 0 && place < t.row.size());
        return t.row.get(place);
    }

    boolean weak(int track, int place, boolean isWeak) {
        Cell c = cell(get(track), place);
        boolean was = c.weak;
        c.weak = isWeak;
        return was;
    }

    private static int count(OneTrack t, int dirt) {
        int n = 0;
        for (Cell c : t.row) {
            n += c.dirt == dirt ? 1 : 0;
        }
        return n;
    }

    int dirt(int track, int from, int to) {
        OneTrack t = get(track);
        cell(t, from);
        cell(t, to);
        argument(to >= from);
        for (int i = from; i <= to; i++) {
            Cell c = t.row.get(i);
            if (c.dirt == 0) {
                c.dirt = 1;
                c.readAsDirty = 0;
            }
        }
        return count(t, 1);
    }

    int clean(int track) {
        OneTrack t = get(track);
        for (Cell c : t.row) {
            c.dirt = c.dirt == 1 ? 0 : c.dirt;
        }
        return count(t, 2);
    }

    private int comes(Cell c) {
        if (c.dirt == 2) {
            return 0;
        }
        if (c.dirt == 1) {
            c.readAsDirty++;
            if (c.readAsDirty == 2) {
                c.dirt = 2;
            }
            return 0;
        }
        if (c.weak) {
            draw = (5 * draw + 7) % 16;
            return draw > 7 ? 1 : 0;
        }
        return c.bit;
    }

    private OneTurn turnOf(OneTrack t) {
        List<Integer> told = new ArrayList<>();
        int ticks = 0;
        for (Cell c : t.row) {
            ticks += c.width;
            if (comes(c) == 1) {
                told.add(ticks);
                ticks = 0;
            }
        }
        OneTurn made = new OneTurn();
        double period = 8.0;
        for (int one : told) {
            int n = (int) Math.rint(one / period);
            n = Math.max(n, 1);
            for (int i = 0; i < n - 1; i++) {
                made.cells.add(0);
            }
            made.cells.add(1);
            period = period + ((double) one / n - period) * 0.25;
            period = Math.min(11.0, Math.max(6.0, period));
        }
        while (made.cells.size() > 400) {
            made.cells.remove(made.cells.size() - 1);
        }
        made.period = period;
        return made;
    }

    int read(int track) {
        OneTrack t = get(track);
        state(!t.row.isEmpty());
        OneTurn made = turnOf(t);
        t.turns.add(made);
        if (t.turns.size() > 3) {
            t.turns.remove(0);
        }
        t.reads++;
        reads++;
        return made.cells.size();
    }

    private static void plainInto(OneTrack source, OneTrack goal) {
        goal.code = source.code;
        goal.row.clear();
        goal.turns.clear();
        goal.written.clear();
        List<Integer> numbers = new ArrayList<>();
        for (OneSector s : look(vote(source), source.code).sectors) {
            if (s.good && !numbers.contains(s.number)) {
                numbers.add(s.number);
                if (goal.row.size() + sectorLong(goal.code, s.count) > 400) {
                    return;
                }
                putSector(goal, s.number, s.data, true, 8);
            }
        }
    }

    int copy(int from, int to, boolean isRaw) {
        OneTrack source = get(from);
        OneTrack goal = get(to);
        argument(from != to);
        state(!source.turns.isEmpty());
        if (!isRaw) {
            plainInto(source, goal);
            plain++;
            return goal.row.size();
        }
        goal.code = source.code;
        goal.row.clear();
        goal.turns.clear();
        goal.written.clear();
        for (int bit : vote(source)) {
            put(goal, bit, 8);
        }
        raw++;
        return goal.row.size();
    }

    private static int[] lengths(OneTrack t) {
        int shortest = t.turns.get(0).cells.size();
        int longest = shortest;
        for (OneTurn turn : t.turns) {
            shortest = Math.min(shortest, turn.cells.size());
            longest = Math.max(longest, turn.cells.size());
        }
        return new int[] {shortest, longest};
    }

    private static List<Integer> vote(OneTrack t) {
        List<Integer> made = new ArrayList<>();
        if (t.turns.isEmpty()) {
            return made;
        }
        for (int i = 0; i < lengths(t)[0]; i++) {
            int ones = 0;
            int zeros = 0;
            for (OneTurn turn : t.turns) {
                ones += turn.cells.get(i);
                zeros += 1 - turn.cells.get(i);
            }
            made.add(ones > zeros ? 1 : zeros > ones ? 0 : t.turns.get(t.turns.size() - 1).cells.get(i));
        }
        return made;
    }

    private static int unsure(OneTrack t) {
        if (t.turns.isEmpty()) {
            return 0;
        }
        int[] ends = lengths(t);
        int n = ends[1] - ends[0];
        for (int i = 0; i < ends[0]; i++) {
            boolean differs = false;
            for (OneTurn turn : t.turns) {
                differs |= !turn.cells.get(i).equals(t.turns.get(0).cells.get(i));
            }
            n += differs ? 1 : 0;
        }
        return n;
    }

    private static boolean isAt(List<Integer> row, int place, int[] cells) {
        if (place + cells.length > row.size()) {
            return false;
        }
        for (int i = 0; i < cells.length; i++) {
            if (row.get(place + i) != cells[i]) {
                return false;
            }
        }
        return true;
    }

    private static int half(List<Integer> row, int place) {
        for (int v = 0; v < 16; v++) {
            if (isAt(row, place, DIGITS[v])) {
                return v;
            }
        }
        return -1;
    }

    private static int byteAt(List<Integer> row, int place, int code) {
        if (code == 2) {
            int high = half(row, place);
            int low = half(row, place + 5);
            return high < 0 || low < 0 ? -1 : 16 * high + low;
        }
        int value = 0;
        for (int i = 1; i < 16; i += 2) {
            value = value * 2 + row.get(place + i);
        }
        return value;
    }

    private static Look look(List<Integer> row, int code) {
        Look found = new Look();
        int b = byteLong(code);
        int at = 0;
        while (at < row.size()) {
            if (!isAt(row, at, MARK)) {
                at++;
                continue;
            }
            int behind = at + 10;
            boolean hasHead = behind + 2 * b <= row.size();
            int number = hasHead ? byteAt(row, behind, code) : -1;
            int count = hasHead ? byteAt(row, behind + b, code) : -1;
            if (number == -1 || count < 1 || count > 4) {
                found.strays++;
                at = behind;
                continue;
            }
            int end = behind + b * (3 + count);
            if (end > row.size()) {
                found.cut = true;
                return found;
            }
            found.sectors.add(sectorAt(row, at, code, number, count));
            at = end;
        }
        return found;
    }

    private static OneSector sectorAt(List<Integer> row, int at, int code, int number, int count) {
        int b = byteLong(code);
        OneSector s = new OneSector();
        s.place = at;
        s.number = number;
        s.count = count;
        boolean hasNone = false;
        int sum = number + count;
        for (int i = 0; i < count; i++) {
            int d = byteAt(row, at + 10 + b * (2 + i), code);
            s.data.add(d);
            hasNone |= d == -1;
            sum += d;
        }
        s.sum = byteAt(row, at + 10 + b * (2 + count), code);
        s.good = !hasNone && s.sum != -1 && s.sum == sum % 256;
        return s;
    }

    private static int guards(OneTrack t) {
        List<Integer> row = vote(t);
        Look found = look(row, t.code);
        boolean bad = false;
        boolean twins = false;
        for (OneSector one : found.sectors) {
            bad |= !one.good;
            for (OneSector other : found.sectors) {
                twins |= one != other && one.number == other.number;
            }
        }
        return (bad ? 1 : 0) + (twins ? 2 : 0) + (unsure(t) > 0 ? 4 : 0) + (found.strays > 0 ? 8 : 0)
            + (found.cut ? 16 : 0) + (row.size() > 300 ? 32 : 0);
    }

    int ofCell(int track, int place, int what) {
        Cell c = cell(get(track), place);
        argument(what >= 0 && what <= 3);
        return what == 0 ? c.bit : what == 1 ? c.width : what == 2 ? (c.weak ? 1 : 0) : c.dirt;
    }

    int ofTrack(int track, int what) {
        OneTrack t = get(track);
        argument(what >= 0 && what <= 11);
        Look found = look(vote(t), t.code);
        int widths = 0;
        for (Cell c : t.row) {
            widths += c.width;
        }
        int[] all = {t.code, t.row.size(), t.turns.size(), vote(t).size(), unsure(t), found.sectors.size(), found.good(),
            found.strays, found.cut ? 1 : 0, guards(t), t.reads, widths};
        return all[what];
    }

    int vote(int track, int place) {
        List<Integer> row = vote(get(track));
        place(place >= 0 && place < row.size());
        return row.get(place);
    }

    private OneTurn turnAt(int track, int turn) {
        OneTrack t = get(track);
        place(turn >= 0 && turn < t.turns.size());
        return t.turns.get(turn);
    }

    int turn(int track, int turn, boolean isWord) {
        OneTurn asked = turnAt(track, turn);
        int w = 1;
        for (int cell : asked.cells) {
            w = 3 * w + cell;
        }
        return isWord ? w : asked.cells.size();
    }

    double period(int track, int turn) {
        return turnAt(track, turn).period;
    }

    int ofSector(int track, int sector, int what) {
        OneTrack t = get(track);
        List<OneSector> sectors = look(vote(t), t.code).sectors;
        place(sector >= 0 && sector < sectors.size());
        argument(what >= 0 && what <= 8);
        OneSector s = sectors.get(sector);
        int[] head = {s.place, s.number, s.count, s.good ? 1 : 0, s.sum};
        return what < 5 ? head[what] : what - 5 < s.count ? s.data.get(what - 5) : -1;
    }

    int chain(int track, int number) {
        OneTrack t = get(track);
        argument(number >= 0 && number <= 255);
        List<OneSector> sectors = look(vote(t), t.code).sectors;
        List<OneSector> met = new ArrayList<>();
        int wanted = number;
        while (true) {
            OneSector next = null;
            for (OneSector s : sectors) {
                if (next == null && s.good && s.number == wanted) {
                    next = s;
                }
            }
            if (next == null || met.contains(next)) {
                return -1;
            }
            met.add(next);
            wanted = next.data.get(0);
            if (wanted == 255) {
                return met.size();
            }
        }
    }

    int many(int what) {
        argument(what >= 0 && what <= 6);
        int shed = 0;
        for (OneTrack t : tracks) {
            shed += count(t, 2);
        }
        int[] all = {tracks.size(), speed, draw, reads, shed, plain, raw};
        return all[what];
    }

    double sure(int track) {
        OneTrack t = get(track);
        int cells = vote(t).size();
        int unsure = unsure(t);
        return t.turns.isEmpty() || cells + unsure == 0 ? 0.0 : 1.0 - (double) unsure / (cells + unsure);
    }

    private static OneTrack plainCopyOf(OneTrack t) {
        OneTrack made = new OneTrack();
        plainInto(t, made);
        return made;
    }

    int plainLong(int track) {
        return plainCopyOf(get(track)).row.size();
    }

    /** Copies into a TRACK of its own and READS that, as the document's words go. */
    int wouldLose(int track) {
        OneTrack t = get(track);
        OneTrack made = plainCopyOf(t);
        if (!made.row.isEmpty()) {
            made.turns.add(turnOf(made));
        }
        return guards(t) & ~guards(made);
    }

    int goodBy(int track, int code) {
        OneTrack t = get(track);
        argument(code >= 0 && code <= 2);
        return look(vote(t), code).good();
    }

    long digest() {
        long d = 9601;
        for (int what = 0; what < 7; what++) {
            d = d * 31 + many(what);
        }
        for (int t = 0; t < tracks.size(); t++) {
            for (int what = 0; what < 12; what++) {
                d = d * 31 + ofTrack(t, what);
            }
            for (int i = 0; i < tracks.get(t).turns.size(); i++) {
                d = d * 31 + turn(t, i, true);
                d = d * 31 + turn(t, i, false);
            }
            d = d * 31 + plainLong(t);
            d = d * 31 + wouldLose(t);
            for (int code = 0; code < 3; code++) {
                d = d * 31 + goodBy(t, code);
            }
            int sectors = ofTrack(t, 5);
            for (int s = 0; s < sectors; s++) {
                for (int what = 0; what < 9; what++) {
                    d = d * 31 + ofSector(t, s, what);
                }
            }
        }
        return d;
    }
}
