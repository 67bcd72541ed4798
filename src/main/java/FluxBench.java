/** A bench on which old disks are read once more. What it promises stands in ../shared/DOC.md. */
public final class FluxBench {
    private static final int NONE = -1;
    private static final int MOST_TRACKS = 4;
    private static final int MOST_CELLS = 400;
    private static final int MOST_TURNS = 3;
    private static final int MOST_DATA = 4;
    private static final int LAST_CODE = 2;
    private static final int LAST_BYTE = 255;

    private static final int FIRST_SPEED = 8;
    private static final int LEAST_SPEED = 6;
    private static final int MOST_SPEED = 11;
    private static final int COPY_WIDTH = 8;

    private static final int MARK = 0b1000010001;
    private static final int MARK_CELLS = 10;
    private static final int CHAIN_END = 255;

    private static final int GUARD_BAD = 1;
    private static final int GUARD_TWINS = 2;
    private static final int GUARD_UNSURE = 4;
    private static final int GUARD_STRAY = 8;
    private static final int GUARD_CUT = 16;
    private static final int GUARD_LONG = 32;
    private static final int LONG_ABOVE = 300;

    private static final int SECTOR_PLACE = 0;
    private static final int SECTOR_NUMBER = 1;
    private static final int SECTOR_COUNT = 2;
    private static final int SECTOR_GOOD = 3;
    private static final int SECTOR_SUM = 4;
    private static final int SECTOR_DATA = 5;
    private static final int SECTOR_VALUES = 9;

    private static final int LAST_OF_CELL = 3;
    private static final int LAST_OF_TRACK = 11;
    private static final int LAST_OF_MANY = 6;

    private final Track[] tracks = new Track[MOST_TRACKS];
    private int trackCount = 0;
    private int speed = FIRST_SPEED;
    private int draw = 0;
    private int reads = 0;
    private int plainCopies = 0;
    private int rawCopies = 0;

    public FluxBench() {
    }

    // ---- what is written

    public int track(int code) throws IllegalArgumentException, IllegalStateException {
        requireCode(code);
        int number = trackCount;
        if (number < 0 || number >= tracks.length) {
            throw new IllegalStateException("there are as many tracks as there may be");
        }
        tracks[number] = new Track(code);
        trackCount = number + 1;
        return number;
    }

    public int speed(int speed) throws IllegalArgumentException {
        if (speed < LEAST_SPEED || speed > MOST_SPEED) {
            throw new IllegalArgumentException("a speed is 6 to 11");
        }
        int before = this.speed;
        this.speed = speed;
        return before;
    }

    public int write(int track, int value) throws IndexOutOfBoundsException, IllegalArgumentException, IllegalStateException {
        Track written = existing(track);
        requireByte(value);
        requireRoom(written, Codes.cellsOfByte(written.code));
        written.surface.putByte(written.code, value, speed);
        return written.surface.length;
    }

    public int mark(int track) throws IndexOutOfBoundsException, IllegalStateException {
        Track written = existing(track);
        requireRoom(written, MARK_CELLS);
        written.surface.putMark(speed);
        return written.surface.length;
    }

    public int sector(int track, int number, int count, int data, boolean isRight) throws IndexOutOfBoundsException, IllegalArgumentException, IllegalStateException {
        Track written = existing(track);
        requireByte(number);
        if (count < 1 || count > MOST_DATA) {
            throw new IllegalArgumentException("a count is 1 to 4");
        }
        if (data < 0) {
            throw new IllegalArgumentException("data is not below 0");
        }
        requireRoom(written, Codes.cellsOfSector(written.code, count));
        written.surface.putSector(written.code, number, count, data, isRight, speed);
        return written.surface.length;
    }

    public boolean weak(int track, int place, boolean isWeak) throws IndexOutOfBoundsException {
        Surface surface = existing(track).surface;
        requirePlace(surface, place);
        boolean wasWeak = surface.isWeak(place);
        surface.setWeak(place, isWeak);
        return wasWeak;
    }

    public int dirt(int track, int from, int to) throws IndexOutOfBoundsException, IllegalArgumentException {
        Surface surface = existing(track).surface;
        requirePlace(surface, from);
        requirePlace(surface, to);
        if (to < from) {
            throw new IllegalArgumentException("the last place is not ahead of the first");
        }
        surface.soil(from, to);
        return surface.countOf(Surface.TOLD_DIRTY);
    }

    public int clean(int track) throws IndexOutOfBoundsException {
        Surface surface = existing(track).surface;
        surface.wipe();
        return surface.countOf(Surface.TOLD_SHED);
    }

    public int read(int track) throws IndexOutOfBoundsException, IllegalStateException {
        Track asked = existing(track);
        if (asked.surface.length == 0) {
            throw new IllegalStateException("the row is empty");
        }
        draw = asked.takeTurn(draw);
        asked.tellTogether();
        reads++;
        return asked.latestTurn().row.length;
    }

    public int copy(int from, int to, boolean isRaw) throws IndexOutOfBoundsException, IllegalArgumentException, IllegalStateException {
        Track source = existing(from);
        Track goal = existing(to);
        if (from == to) {
            throw new IllegalArgumentException("a track is not copied into itself");
        }
        if (source.turnCount == 0) {
            throw new IllegalStateException("the first track has no turn");
        }
        goal.becomeEmpty(source.code);
        if (isRaw) {
            goal.putRawCopy(source.vote);
            rawCopies++;
        } else {
            goal.putPlainCopy(source.finds());
            plainCopies++;
        }
        goal.tellTogether();
        return goal.surface.length;
    }

    // ---- what one asks

    public int ofCell(int track, int place, int what) throws IndexOutOfBoundsException, IllegalArgumentException {
        Surface surface = existing(track).surface;
        requirePlace(surface, place);
        requireWhat(what, LAST_OF_CELL);
        switch (what) {
            case 0:
                return surface.bitAt(place);
            case 1:
                return surface.widthAt(place);
            case 2:
                return surface.isWeak(place) ? 1 : 0;
            default:
                return surface.dirtTold(place);
        }
    }

    public int ofTrack(int track, int what) throws IndexOutOfBoundsException, IllegalArgumentException {
        Track asked = existing(track);
        requireWhat(what, LAST_OF_TRACK);
        switch (what) {
            case 0:
                return asked.code;
            case 1:
                return asked.surface.length;
            case 2:
                return asked.turnCount;
            case 3:
                return asked.vote.length;
            case 4:
                return asked.unsure;
            case 5:
                return asked.finds().sectors;
            case 6:
                return asked.finds().goodOnes;
            case 7:
                return asked.finds().strays;
            case 8:
                return asked.finds().isCut ? 1 : 0;
            case 9:
                return asked.guards();
            case 10:
                return asked.reads;
            default:
                return asked.surface.widthsTogether();
        }
    }

    public int vote(int track, int place) throws IndexOutOfBoundsException {
        Row row = existing(track).vote;
        if (place < 0 || place >= row.length) {
            throw new IndexOutOfBoundsException("there is no such place in the vote");
        }
        return row.at(place);
    }

    public int turn(int track, int turn, boolean isWord) throws IndexOutOfBoundsException {
        Row row = existingTurn(track, turn).row;
        return isWord ? row.word : row.length;
    }

    public double period(int track, int turn) throws IndexOutOfBoundsException {
        return existingTurn(track, turn).period;
    }

    public int ofSector(int track, int sector, int what) throws IndexOutOfBoundsException, IllegalArgumentException {
        Finds finds = existing(track).finds();
        if (sector < 0 || sector >= finds.sectors) {
            throw new IndexOutOfBoundsException("there is no such sector");
        }
        requireWhat(what, SECTOR_VALUES - 1);
        return finds.valueOf(sector, what);
    }

    public int chain(int track, int number) throws IndexOutOfBoundsException, IllegalArgumentException {
        Track asked = existing(track);
        requireByte(number);
        return asked.finds().chainFrom(number);
    }

    public int many(int what) throws IllegalArgumentException {
        requireWhat(what, LAST_OF_MANY);
        switch (what) {
            case 0:
                return trackCount;
            case 1:
                return speed;
            case 2:
                return draw;
            case 3:
                return reads;
            case 4:
                return shedCells();
            case 5:
                return plainCopies;
            default:
                return rawCopies;
        }
    }

    public double sure(int track) throws IndexOutOfBoundsException {
        Track asked = existing(track);
        int all = asked.vote.length + asked.unsure;
        if (asked.turnCount == 0 || all == 0) {
            return 0.0;
        }
        return 1.0 - (double) asked.unsure / all;
    }

    // ---- what would be (nothing is changed)

    public int plainLong(int track) throws IndexOutOfBoundsException {
        return existing(track).finds().plainCells;
    }

    public int wouldLose(int track) throws IndexOutOfBoundsException {
        Track asked = existing(track);
        // A PLAIN copy comes back from a READ just as it was written (steady CELLS, of the WIDTH
        // at which the clock begins), and holds only GOOD SECTORS of different NUMBERS, one right
        // behind the other. So the one GUARD that it can have is its length.
        int kept = asked.finds().plainCells > LONG_ABOVE ? GUARD_LONG : 0;
        return asked.guards() & ~kept;
    }

    public int goodBy(int track, int code) throws IndexOutOfBoundsException, IllegalArgumentException {
        Track asked = existing(track);
        requireCode(code);
        return asked.findsBy(code).goodOnes;
    }

    public long digest() {
        long d = 9601;
        for (int what = 0; what <= LAST_OF_MANY; what++) {
            d = d * 31 + many(what);
        }
        for (int number = 0; number < trackCount; number++) {
            d = digestOfTrack(number, d);
        }
        return d;
    }

    private long digestOfTrack(int track, long before) {
        long d = before;
        for (int what = 0; what <= LAST_OF_TRACK; what++) {
            d = d * 31 + ofTrack(track, what);
        }
        int turns = existing(track).turnCount;
        for (int turn = 0; turn < turns; turn++) {
            d = d * 31 + turn(track, turn, true);
            d = d * 31 + turn(track, turn, false);
        }
        d = d * 31 + plainLong(track);
        d = d * 31 + wouldLose(track);
        for (int code = 0; code <= LAST_CODE; code++) {
            d = d * 31 + goodBy(track, code);
        }
        return digestOfSectors(track, d);
    }

    private long digestOfSectors(int track, long before) {
        long d = before;
        int sectors = existing(track).finds().sectors;
        for (int sector = 0; sector < sectors; sector++) {
            for (int what = 0; what < SECTOR_VALUES; what++) {
                d = d * 31 + ofSector(track, sector, what);
            }
        }
        return d;
    }

    private int shedCells() {
        int shed = 0;
        for (int number = 0; number < trackCount; number++) {
            shed += existing(number).surface.countOf(Surface.TOLD_SHED);
        }
        return shed;
    }

    private Track existing(int number) {
        if (number < 0 || number >= tracks.length) {
            throw new IndexOutOfBoundsException("there is no such track");
        }
        Track found = tracks[number];
        if (found == null) {
            throw new IndexOutOfBoundsException("there is no such track yet");
        }
        return found;
    }

    private Turn existingTurn(int track, int turn) {
        Track asked = existing(track);
        if (turn < 0 || turn >= asked.turnCount) {
            throw new IndexOutOfBoundsException("there is no such turn");
        }
        return asked.turnAt(turn);
    }

    private static void requirePlace(Surface surface, int place) {
        if (!surface.hasPlace(place)) {
            throw new IndexOutOfBoundsException("there is no such place in the row");
        }
    }

    private static void requireCode(int code) {
        if (code < 0 || code > LAST_CODE) {
            throw new IllegalArgumentException("a code is 0 to 2");
        }
    }

    private static void requireByte(int value) {
        if (value < 0 || value > LAST_BYTE) {
            throw new IllegalArgumentException("a byte is 0 to 255");
        }
    }

    private static void requireWhat(int what, int last) {
        if (what < 0 || what > last) {
            throw new IllegalArgumentException("there is no such thing to ask for");
        }
    }

    private static void requireRoom(Track track, int cells) {
        if (!track.surface.hasRoomFor(cells)) {
            throw new IllegalStateException("the row would have more than 400 cells");
        }
    }

    /** How BYTES become CELLS by each CODE, and CELLS become BYTES again. */
    private static final class Codes {
        static final int CLOCKED = 1;
        static final int GROUPED = 2;
        static final int BITS = 8;
        static final int HALVES = 16;
        static final int GROUP_CELLS = 5;

        private static final int[] GROUPS = {10, 11, 18, 19, 14, 15, 22, 23, 9, 25, 26, 27, 13, 29, 30, 21};

        static int cellsOfByte(int code) {
            return code == GROUPED ? 2 * GROUP_CELLS : 2 * BITS;
        }

        static int cellsOfSector(int code, int count) {
            return MARK_CELLS + (count + 3) * cellsOfByte(code) + 1;
        }

        static int groupOf(int half) {
            return half >= 0 && half < GROUPS.length ? GROUPS[half] : 0;
        }

        static int byteAt(Row row, int place, int code) {
            boolean isGrouped = code == GROUPED;
            int first = isGrouped ? place : place + 1;
            int step = isGrouped ? 1 : 2;
            int cells = isGrouped ? 2 * GROUP_CELLS : BITS;
            int word = 0;
            for (int i = 0; i < cells; i++) {
                word = 2 * word + row.at(first + i * step);
            }
            return isGrouped ? byteOfGroups(word) : word;
        }

        private static int byteOfGroups(int word) {
            int high = NONE;
            int low = NONE;
            for (int half = 0; half < GROUPS.length; half++) {
                high = GROUPS[half] == word >> GROUP_CELLS ? half : high;
                low = GROUPS[half] == word % (1 << GROUP_CELLS) ? half : low;
            }
            return high == NONE || low == NONE ? NONE : high * HALVES + low;
        }
    }

    /** A row as it was made again: a TURN's or a VOTE's. What goes beyond its room is cut off. */
    private static final class Row {
        private final int[] cells = new int[MOST_CELLS];
        int length = 0;
        int word = 1;

        void empty() {
            length = 0;
            word = 1;
        }

        void put(int cell) {
            if (length < 0 || length >= cells.length) {
                return;
            }
            cells[length] = cell;
            length++;
            word = 3 * word + cell;
        }

        int at(int place) {
            return place >= 0 && place < length && place < cells.length ? cells[place] : 0;
        }
    }

    /** What the clock makes of the TICKS that the drive tells. */
    private static final class Turn {
        private static final int FIRST_PERIOD = 8;
        private static final int LEAST_PERIOD = 6;
        private static final int MOST_PERIOD = 11;

        final Row row = new Row();
        double period = FIRST_PERIOD;

        void begin() {
            row.empty();
            period = FIRST_PERIOD;
        }

        void hear(int ticks) {
            int cells = Math.max(1, nearestEven(ticks / period));
            for (int zero = 1; zero < cells; zero++) {
                row.put(0);
            }
            row.put(1);
            period = held(period + ((double) ticks / cells - period) * 0.25);
        }

        // Stands for Math.rint, which LANGUAGE.md leaves out; the quotients are above 0 and small.
        private static int nearestEven(double value) {
            int whole = (int) value;
            double rest = value - whole;
            boolean isUp = rest > 0.5 || rest == 0.5 && whole % 2 != 0;
            return isUp ? whole + 1 : whole;
        }

        private static double held(double period) {
            if (period < LEAST_PERIOD) {
                return LEAST_PERIOD;
            }
            return period > MOST_PERIOD ? MOST_PERIOD : period;
        }
    }

    /** The row of a TRACK as it is written. */
    private static final class Surface {
        static final int TOLD_CLEAN = 0;
        static final int TOLD_DIRTY = 1;
        static final int TOLD_SHED = 2;

        private static final int CLEAN = 0;
        private static final int DIRTY = 1;
        private static final int DIRTY_AND_READ = 2;
        private static final int SHED = 3;

        private final int[] bits = new int[MOST_CELLS];
        private final int[] widths = new int[MOST_CELLS];
        private final boolean[] weakness = new boolean[MOST_CELLS];
        private final int[] dirtiness = new int[MOST_CELLS];
        int length = 0;
        private int bitAhead = 0;

        void empty() {
            length = 0;
            bitAhead = 0;
        }

        boolean hasRoomFor(int cells) {
            return cells <= MOST_CELLS - length;
        }

        boolean hasPlace(int place) {
            return place >= 0 && place < length && place < MOST_CELLS;
        }

        void put(int bit, int width) {
            if (length < 0 || length >= MOST_CELLS) {
                return;
            }
            bits[length] = bit;
            widths[length] = width;
            weakness[length] = false;
            dirtiness[length] = CLEAN;
            length++;
        }

        void putMark(int width) {
            putDigits(MARK, MARK_CELLS, width);
            bitAhead = 0;
        }

        void putByte(int code, int value, int width) {
            if (code == Codes.GROUPED) {
                putDigits(Codes.groupOf(value / Codes.HALVES), Codes.GROUP_CELLS, width);
                putDigits(Codes.groupOf(value % Codes.HALVES), Codes.GROUP_CELLS, width);
                return;
            }
            for (int shift = Codes.BITS - 1; shift >= 0; shift--) {
                int bit = value >> shift & 1;
                boolean isClock = code != Codes.CLOCKED || bit == 0 && bitAhead == 0;
                put(isClock ? 1 : 0, width);
                put(bit, width);
                bitAhead = bit;
            }
        }

        // The DATA come as four BYTES in one number, which a copy may fill to its sign: so they are
        // shifted out, not divided.
        void putSector(int code, int number, int count, int data, boolean isRight, int width) {
            int sum = number + count + (isRight ? 0 : 1);
            putMark(width);
            putByte(code, number, width);
            putByte(code, count, width);
            for (int i = 0; i < count; i++) {
                int value = data >>> 8 * i & LAST_BYTE;
                putByte(code, value, width);
                sum += value;
            }
            putByte(code, sum & LAST_BYTE, width);
            put(1, width);
        }

        private void putDigits(int digits, int count, int width) {
            for (int shift = count - 1; shift >= 0; shift--) {
                put(digits >> shift & 1, width);
            }
        }

        int bitAt(int place) {
            return hasPlace(place) ? bits[place] : 0;
        }

        int widthAt(int place) {
            return hasPlace(place) ? widths[place] : 0;
        }

        boolean isWeak(int place) {
            return hasPlace(place) && weakness[place];
        }

        void setWeak(int place, boolean isWeak) {
            if (hasPlace(place)) {
                weakness[place] = isWeak;
            }
        }

        private int dirtAt(int place) {
            return hasPlace(place) ? dirtiness[place] : CLEAN;
        }

        private void setDirt(int place, int dirt) {
            if (hasPlace(place)) {
                dirtiness[place] = dirt;
            }
        }

        int dirtTold(int place) {
            int dirt = dirtAt(place);
            if (dirt == CLEAN) {
                return TOLD_CLEAN;
            }
            return dirt == SHED ? TOLD_SHED : TOLD_DIRTY;
        }

        boolean isDrawn(int place) {
            return isWeak(place) && dirtAt(place) == CLEAN;
        }

        boolean isPlainOne(int place) {
            return bitAt(place) == 1 && dirtAt(place) == CLEAN;
        }

        void soil(int from, int to) {
            for (int place = Math.max(0, from); place <= to && place < length; place++) {
                if (dirtAt(place) == CLEAN) {
                    setDirt(place, DIRTY);
                }
            }
        }

        void wipe() {
            for (int place = 0; place < length; place++) {
                if (dirtAt(place) != SHED) {
                    setDirt(place, CLEAN);
                }
            }
        }

        void wear(int place) {
            int dirt = dirtAt(place);
            if (dirt == DIRTY) {
                setDirt(place, DIRTY_AND_READ);
            } else if (dirt == DIRTY_AND_READ) {
                setDirt(place, SHED);
            }
        }

        int countOf(int told) {
            int count = 0;
            for (int place = 0; place < length; place++) {
                if (dirtTold(place) == told) {
                    count++;
                }
            }
            return count;
        }

        int widthsTogether() {
            int ticks = 0;
            for (int place = 0; place < length; place++) {
                ticks += widthAt(place);
            }
            return ticks;
        }
    }

    /** What one finds in a VOTE behind its MARKS, by a CODE. */
    private static final class Finds {
        // The shortest SECTOR has 50 CELLS: a MARK and four BYTES of ten.
        private static final int MOST_SECTORS = MOST_CELLS / 50;

        final int code;
        private final int[] values = new int[MOST_SECTORS * SECTOR_VALUES];
        private final int[] plainSectors = new int[MOST_SECTORS];
        int sectors = 0;
        int goodOnes = 0;
        int strays = 0;
        boolean isCut = false;
        int plainCount = 0;
        int plainCells = 0;

        Finds(int code) {
            this.code = code;
        }

        void look(Row row) {
            sectors = 0;
            goodOnes = 0;
            strays = 0;
            isCut = false;
            int goOn = 0;
            int latestCells = 0;
            for (int end = 0; end < row.length && !isCut; end++) {
                latestCells = (2 * latestCells + row.at(end)) % (1 << MARK_CELLS);
                int place = end + 1 - MARK_CELLS;
                if (place >= goOn && latestCells == MARK) {
                    goOn = noteBehindMark(row, place);
                }
            }
            planPlainCopy();
        }

        /** Tells from where one goes on looking. */
        private int noteBehindMark(Row row, int mark) {
            int cells = Codes.cellsOfByte(code);
            int behind = mark + MARK_CELLS;
            if (behind + 2 * cells > row.length) {
                strays++;
                return behind;
            }
            int number = Codes.byteAt(row, behind, code);
            int count = Codes.byteAt(row, behind + cells, code);
            if (number == NONE || count < 1 || count > MOST_DATA) {
                strays++;
                return behind;
            }
            int end = behind + (count + 3) * cells;
            if (end > row.length) {
                isCut = true;
                return end;
            }
            setValue(sectors, SECTOR_PLACE, mark);
            setValue(sectors, SECTOR_NUMBER, number);
            setValue(sectors, SECTOR_COUNT, count);
            keepDataAndSum(row, behind + 2 * cells, number, count);
            return end;
        }

        private void keepDataAndSum(Row row, int data, int number, int count) {
            int cells = Codes.cellsOfByte(code);
            int dueSum = number + count;
            boolean isGood = true;
            for (int i = 0; i < MOST_DATA; i++) {
                int value = i < count ? Codes.byteAt(row, data + i * cells, code) : NONE;
                setValue(sectors, SECTOR_DATA + i, value);
                if (i < count) {
                    dueSum += value;
                    isGood = isGood && value != NONE;
                }
            }
            int sum = Codes.byteAt(row, data + count * cells, code);
            isGood = isGood && sum == dueSum % (LAST_BYTE + 1);
            setValue(sectors, SECTOR_SUM, sum);
            setValue(sectors, SECTOR_GOOD, isGood ? 1 : 0);
            sectors++;
            goodOnes += isGood ? 1 : 0;
        }

        private void planPlainCopy() {
            plainCount = 0;
            plainCells = 0;
            for (int sector = 0; sector < sectors; sector++) {
                if (!isFirstGood(sector)) {
                    continue;
                }
                int cells = Codes.cellsOfSector(code, valueOf(sector, SECTOR_COUNT));
                if (plainCells + cells > MOST_CELLS || plainCount < 0 || plainCount >= plainSectors.length) {
                    return;
                }
                plainSectors[plainCount] = sector;
                plainCount++;
                plainCells += cells;
            }
        }

        int plainSector(int order) {
            return order >= 0 && order < plainCount && order < plainSectors.length ? plainSectors[order] : NONE;
        }

        private void setValue(int sector, int what, int value) {
            int index = sector * SECTOR_VALUES + what;
            if (index >= 0 && index < values.length) {
                values[index] = value;
            }
        }

        int valueOf(int sector, int what) {
            int index = sector * SECTOR_VALUES + what;
            return index >= 0 && index < values.length ? values[index] : NONE;
        }

        private int firstGood(int number) {
            for (int sector = 0; sector < sectors; sector++) {
                if (valueOf(sector, SECTOR_GOOD) == 1 && valueOf(sector, SECTOR_NUMBER) == number) {
                    return sector;
                }
            }
            return NONE;
        }

        private boolean isFirstGood(int sector) {
            return firstGood(valueOf(sector, SECTOR_NUMBER)) == sector;
        }

        // A CHAIN that has not ended after as many steps as there are SECTORS has met one again.
        int chainFrom(int start) {
            int number = start;
            for (int steps = 1; steps <= sectors; steps++) {
                int sector = firstGood(number);
                if (sector == NONE) {
                    return NONE;
                }
                number = valueOf(sector, SECTOR_DATA);
                if (number == CHAIN_END) {
                    return steps;
                }
            }
            return NONE;
        }

        boolean hasTwins() {
            for (int one = 0; one < sectors; one++) {
                for (int other = one + 1; other < sectors; other++) {
                    if (valueOf(one, SECTOR_NUMBER) == valueOf(other, SECTOR_NUMBER)) {
                        return true;
                    }
                }
            }
            return false;
        }

        int dataOf(int sector) {
            int data = 0;
            for (int i = 0; i < MOST_DATA; i++) {
                data |= (valueOf(sector, SECTOR_DATA + i) & LAST_BYTE) << 8 * i;
            }
            return data;
        }
    }

    /** A TRACK, with what its TURNS tell together: that is made anew when they change. */
    private static final class Track {
        final Surface surface = new Surface();
        final Row vote = new Row();
        private final Finds findsOfPairs = new Finds(Codes.CLOCKED);
        private final Finds findsOfGroups = new Finds(Codes.GROUPED);
        private final Turn turn0 = new Turn();
        private final Turn turn1 = new Turn();
        private final Turn turn2 = new Turn();
        int code;
        int turnCount = 0;
        int unsure = 0;
        int reads = 0;
        private int oldest = 0;

        Track(int code) {
            this.code = code;
        }

        Finds finds() {
            return findsBy(code);
        }

        // The CODES 0 and 1 are looked through alike, because CLOCKS do not matter.
        Finds findsBy(int anyCode) {
            return anyCode == Codes.GROUPED ? findsOfGroups : findsOfPairs;
        }

        Turn turnAt(int age) {
            switch (Math.floorMod(oldest + age, MOST_TURNS)) {
                case 0:
                    return turn0;
                case 1:
                    return turn1;
                default:
                    return turn2;
            }
        }

        Turn latestTurn() {
            return turnAt(turnCount - 1);
        }

        private Turn nextTurn() {
            if (turnCount < MOST_TURNS) {
                turnCount++;
            } else {
                oldest = (oldest + 1) % MOST_TURNS;
            }
            return latestTurn();
        }

        /** READS the row, from the DRAW that it is told; tells the DRAW that is left. */
        int takeTurn(int drawBefore) {
            int draw = drawBefore;
            int ticks = 0;
            Turn turn = nextTurn();
            turn.begin();
            for (int place = 0; place < surface.length; place++) {
                boolean isOne = surface.isPlainOne(place);
                if (surface.isDrawn(place)) {
                    draw = (5 * draw + 7) % 16;
                    isOne = draw > 7;
                }
                ticks += surface.widthAt(place);
                if (isOne) {
                    turn.hear(ticks);
                    ticks = 0;
                }
                surface.wear(place);
            }
            reads++;
            return draw;
        }

        /** Makes the VOTE anew, and what one finds in it. */
        void tellTogether() {
            int shortest = turnCount == 0 ? 0 : MOST_CELLS;
            int longest = 0;
            for (int age = 0; age < turnCount; age++) {
                shortest = Math.min(shortest, turnAt(age).row.length);
                longest = Math.max(longest, turnAt(age).row.length);
            }
            vote.empty();
            unsure = longest - shortest;
            for (int place = 0; place < shortest; place++) {
                int ones = onesAt(place);
                if (ones != 0 && ones != turnCount) {
                    unsure++;
                }
                if (2 * ones == turnCount) {
                    vote.put(latestTurn().row.at(place));
                } else {
                    vote.put(2 * ones > turnCount ? 1 : 0);
                }
            }
            findsOfPairs.look(vote);
            findsOfGroups.look(vote);
        }

        private int onesAt(int place) {
            int ones = 0;
            for (int age = 0; age < turnCount; age++) {
                ones += turnAt(age).row.at(place);
            }
            return ones;
        }

        int guards() {
            Finds finds = finds();
            int set = finds.goodOnes < finds.sectors ? GUARD_BAD : 0;
            set |= finds.hasTwins() ? GUARD_TWINS : 0;
            set |= unsure > 0 ? GUARD_UNSURE : 0;
            set |= finds.strays > 0 ? GUARD_STRAY : 0;
            set |= finds.isCut ? GUARD_CUT : 0;
            set |= vote.length > LONG_ABOVE ? GUARD_LONG : 0;
            return set;
        }

        void becomeEmpty(int newCode) {
            code = newCode;
            surface.empty();
            turnCount = 0;
            oldest = 0;
        }

        void putRawCopy(Row from) {
            for (int place = 0; place < from.length; place++) {
                surface.put(from.at(place), COPY_WIDTH);
            }
        }

        void putPlainCopy(Finds from) {
            for (int order = 0; order < from.plainCount; order++) {
                int sector = from.plainSector(order);
                int number = from.valueOf(sector, SECTOR_NUMBER);
                int count = from.valueOf(sector, SECTOR_COUNT);
                surface.putSector(code, number, count, from.dataOf(sector), true, COPY_WIDTH);
            }
        }
    }
}
