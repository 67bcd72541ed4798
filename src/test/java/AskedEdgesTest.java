import java.math.BigInteger;

/** Promises 1, 12, 13, 14, 17, 19 and 24: each sentence that names a boundary has a method here. */
final class AskedEdgesTest {
    private static final int[] FAR = {Integer.MIN_VALUE, Integer.MAX_VALUE};

    /** "Creates a bench without TRACKS." */
    private static void aNewBenchIsWithoutTracks() {
        FluxBench bench = new FluxBench();
        int[] due = {0, 8, 0, 0, 0, 0, 0};
        for (int what = 0; what < due.length; what++) {
            Check.same("many " + what, bench.many(what), due[what]);
        }
        for (int track = -1; track <= 4; track++) {
            int any = track;
            Check.refusesPlace("track " + track, bench, () -> bench.ofTrack(any, 0));
        }
    }

    /** "IndexOutOfBoundsException if there is no such TRACK": the first and the last are, the next is not yet. */
    private static void tracksGoFrom0ToTheLast() {
        FluxBench bench = new FluxBench();
        for (int tracks = 1; tracks <= 4; tracks++) {
            int next = tracks;
            bench.track(tracks % 3);
            Check.same("the last", bench.ofTrack(tracks - 1, 0), tracks % 3);
            Check.same("the first", bench.ofTrack(0, 0), 1);
            Check.refusesPlace("the next", bench, () -> bench.ofTrack(next, 0));
            Check.refusesPlace("track -1", bench, () -> bench.ofTrack(-1, 0));
        }
    }

    /** "IndexOutOfBoundsException if there is no such TRACK, or place in its row": ofCell(). */
    private static void cellsGoFrom0ToTheLast() {
        FluxBench bench = Benches.withTrack(2);
        Check.refusesPlace("an empty row has no place 0", bench, () -> bench.ofCell(0, 0, 0));
        bench.mark(0);
        int[] wrong = {-1, 10, FAR[0], FAR[1]};
        for (int place : wrong) {
            Check.refusesPlace("place " + place, bench, () -> bench.ofCell(0, place, 0));
        }
        Check.same("the first", bench.ofCell(0, 0, 0), 1);
        Check.same("the last", bench.ofCell(0, 9, 0), 1);
        FluxBench full = Patterns.rowOf(1, 400);
        Check.same("the last of 400", full.ofCell(1, 399, 0), 1);
        Check.refusesPlace("place 400", full, () -> full.ofCell(1, 400, 0));
    }

    /** "IllegalArgumentException if what is not 0 to 3" */
    private static void whatOfACellIs0To3() {
        FluxBench bench = Benches.withTrack(0);
        bench.speed(6);
        bench.write(0, 1);
        bench.weak(0, 15, true);
        int[] wrong = {-1, 4, FAR[0], FAR[1]};
        for (int what : wrong) {
            Check.refusesArgument("what " + what, bench, () -> bench.ofCell(0, 0, what));
        }
        int[] due = {1, 6, 1, 0};
        for (int what = 0; what <= 3; what++) {
            Check.same("what " + what, bench.ofCell(0, 15, what), due[what]);
        }
    }

    /** "0 its BIT, .. 3 0 if it is CLEAN, 1 DIRTY, 2 SHED": the BIT stays that which was written. */
    private static void theBitOfACellStays() {
        FluxBench bench = Benches.withTrack(0);
        bench.write(0, 255);
        bench.weak(0, 3, true);
        bench.dirt(0, 3, 3);
        int[] dirty = {1, 1, 2, 2};
        for (int due : dirty) {
            Check.same("its bit", bench.ofCell(0, 3, 0), 1);
            Check.same("it is weak", bench.ofCell(0, 3, 2), 1);
            Check.same("how clean it is", bench.ofCell(0, 3, 3), due);
            bench.read(0);
        }
    }

    /** "IllegalArgumentException if what is not 0 to 11": a new TRACK has its CODE, and nothing else. */
    private static void whatOfATrackIs0To11() {
        for (int code = 0; code <= 2; code++) {
            FluxBench bench = Benches.withTrack(code);
            int[] wrong = {-1, 12, FAR[0], FAR[1]};
            for (int what : wrong) {
                Check.refusesArgument("what " + what, bench, () -> bench.ofTrack(0, what));
            }
            for (int what = 0; what <= 11; what++) {
                Check.same("what " + what, bench.ofTrack(0, what), what == 0 ? code : 0);
            }
        }
    }

    /** "10 how often it was READ ever": beyond the three that are kept, not by refused ones, nor by copies. */
    private static void readsOfATrackAreCountedEver() {
        FluxBench bench = Benches.withTrack(2);
        bench.track(2);
        Check.refusesState("an empty row", bench, () -> bench.read(1));
        bench.mark(0);
        bench.mark(1);
        for (int reads = 1; reads <= 5; reads++) {
            bench.read(1);
            Check.same("read ever", bench.ofTrack(1, 10), reads);
        }
        bench.read(0);
        bench.copy(0, 1, true);
        Check.same("behind a copy", bench.ofTrack(1, 10), 5);
        Check.same("of the first one", bench.ofTrack(0, 10), 1);
        Check.same("of all", bench.many(3), 6);
    }

    /** "11 WIDTHS of its row together": of an empty row, and of full ones. */
    private static void widthsGoFrom0To4400() {
        int[] speeds = {6, 8, 11};
        for (int speed : speeds) {
            FluxBench bench = Benches.withTrack(2);
            bench.speed(speed);
            Check.same("an empty row", bench.ofTrack(0, 11), 0);
            for (int i = 0; i < 40; i++) {
                bench.mark(0);
            }
            Check.same("a full row", bench.ofTrack(0, 11), 400 * speed);
        }
    }

    /** "IndexOutOfBoundsException if there is no such TRACK, or place in the VOTE": the row may be longer. */
    private static void theVoteGoesFrom0ToItsLast() {
        FluxBench bench = Patterns.read(0, "101");
        Check.same("the row is longer", bench.ofTrack(0, 1), 16);
        int[] wrong = {-1, 3, 15, 16, 400, FAR[0], FAR[1]};
        for (int place : wrong) {
            Check.refusesPlace("place " + place, bench, () -> bench.vote(0, place));
        }
        Check.sameText("the whole", Benches.voteOf(bench, 0), "101");
        FluxBench full = Patterns.read(0, "1".repeat(399) + "1");
        Check.same("the last of 400", full.vote(0, 399), 1);
        Check.refusesPlace("place 400", full, () -> full.vote(0, 400));
    }

    /** "IllegalArgumentException if what is not 0 to 8" */
    private static void whatOfASectorIs0To8() {
        FluxBench bench = Benches.withTrack(0);
        bench.sector(0, 3, 4, 0x04030201, true);
        bench.read(0);
        int[] wrong = {-1, 9, FAR[0], FAR[1]};
        for (int what : wrong) {
            Check.refusesArgument("what " + what, bench, () -> bench.ofSector(0, 0, what));
        }
        Check.same("what 0", bench.ofSector(0, 0, 0), 0);
        Check.same("what 8", bench.ofSector(0, 0, 8), 4);
    }

    /** "IllegalArgumentException if what is not 0 to 6" */
    private static void whatOfManyIs0To6() {
        FluxBench bench = new FluxBench();
        int[] wrong = {-1, 7, FAR[0], FAR[1]};
        for (int what : wrong) {
            Check.refusesArgument("what " + what, bench, () -> bench.many(what));
        }
        Check.same("what 0", bench.many(0), 0);
        Check.same("what 6", bench.many(6), 0);
    }

    /** "4 CELLS that are SHED, of all rows": of four full ones, and of none. */
    private static void allCellsMayBeShed() {
        FluxBench bench = new FluxBench();
        for (int track = 0; track < 4; track++) {
            bench.track(0);
            for (int i = 0; i < 25; i++) {
                bench.write(track, 255);
            }
            bench.dirt(track, 0, 399);
            bench.read(track);
            Check.same("dirty ones are not shed", bench.many(4), 400 * track);
            bench.read(track);
            Check.same("of all rows", bench.many(4), 400 * track + 400);
        }
        bench.copy(0, 3, true);
        Check.same("what was copied over is gone", bench.many(4), 1200);
    }

    private static BigInteger put(BigInteger d, long v) {
        return d.multiply(BigInteger.valueOf(31)).add(BigInteger.valueOf(v));
    }

    /** The digest as a number without bounds, which only at its end is cut to 64 bits. */
    private static long foldOf(FluxBench bench) {
        BigInteger d = BigInteger.valueOf(9601);
        for (int what = 0; what <= 6; what++) {
            d = put(d, bench.many(what));
        }
        for (int track = 0; track < bench.many(0); track++) {
            for (int what = 0; what <= 11; what++) {
                d = put(d, bench.ofTrack(track, what));
            }
            int turns = bench.ofTrack(track, 2);
            for (int turn = 0; turn < turns; turn++) {
                d = put(d, bench.turn(track, turn, true));
                d = put(d, bench.turn(track, turn, false));
            }
            d = put(d, bench.plainLong(track));
            d = put(d, bench.wouldLose(track));
            for (int code = 0; code <= 2; code++) {
                d = put(d, bench.goodBy(track, code));
            }
            int sectors = bench.ofTrack(track, 5);
            for (int sector = 0; sector < sectors; sector++) {
                for (int what = 0; what <= 8; what++) {
                    d = put(d, bench.ofSector(track, sector, what));
                }
            }
        }
        return d.longValue();
    }

    /** "A number d starts with 9601": of a bench without TRACKS. */
    private static void theDigestStartsWith9601() {
        Check.same("a new bench", new FluxBench().digest(), foldOf(new FluxBench()));
        Check.same("worked by hand", new FluxBench().digest(), (9601L * 31 * 31 + 8) * 31 * 31 * 31 * 31 * 31);
    }

    /** "which wraps around as a 64-bit integer": one empty TRACK has more than that, and four full ones. */
    private static void theDigestWrapsAround() {
        for (int last = 0; last < 4; last++) {
            FluxBench bench = new FluxBench();
            for (int track = 0; track < last; track++) {
                bench.track(track % 3);
                bench.sector(track, 255, 4, Integer.MAX_VALUE, track != 2);
                bench.weak(track, 20, true);
                Benches.readTimes(bench, track, 1 + track);
            }
            bench.track(last % 3);
            Check.same("an empty track behind " + last, bench.digest(), foldOf(bench));
            bench.sector(last, 255, 4, Integer.MAX_VALUE, false);
            bench.read(last);
            Check.same("a bad sector behind " + last, bench.digest(), foldOf(bench));
        }
    }

    /** "TURN by TURN .. (the number w first)", "SECTOR by SECTOR": none, one and the most of them. */
    private static void theDigestHasAllTurnsAndSectors() {
        FluxBench bench = Benches.withTrack(2);
        for (int number = 0; number < 7; number++) {
            Benches.shortSector(bench, 0, number, number + 1);
        }
        Benches.shortSector(bench, 0, 17, 255);
        for (int turns = 0; turns <= 4; turns++) {
            Check.same("turns " + turns, bench.digest(), foldOf(bench));
            bench.read(0);
        }
        Check.same("eight sectors", bench.ofTrack(0, 5), 8);
    }

    public static void main(String[] args) {
        aNewBenchIsWithoutTracks();
        tracksGoFrom0ToTheLast();
        cellsGoFrom0ToTheLast();
        whatOfACellIs0To3();
        theBitOfACellStays();
        whatOfATrackIs0To11();
        readsOfATrackAreCountedEver();
        widthsGoFrom0To4400();
        theVoteGoesFrom0ToItsLast();
        whatOfASectorIs0To8();
        whatOfManyIs0To6();
        allCellsMayBeShed();
        theDigestStartsWith9601();
        theDigestWrapsAround();
        theDigestHasAllTurnsAndSectors();
        Check.end("AskedEdgesTest");
    }
}
