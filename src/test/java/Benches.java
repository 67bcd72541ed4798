/** Benches that several tests begin with, and rows of CELLS as texts of 0 and 1. */
final class Benches {
    private Benches() {
    }

    static FluxBench withTrack(int code) {
        FluxBench bench = new FluxBench();
        bench.track(code);
        return bench;
    }

    static void readTimes(FluxBench bench, int track, int times) {
        for (int i = 0; i < times; i++) {
            bench.read(track);
        }
    }

    /** The BITS of a TRACK's row from a place on. */
    static String rowFrom(FluxBench bench, int track, int from) {
        StringBuilder made = new StringBuilder();
        int cells = bench.ofTrack(track, 1);
        for (int place = from; place < cells; place++) {
            made.append(bench.ofCell(track, place, 0));
        }
        return made.toString();
    }

    static String voteOf(FluxBench bench, int track) {
        StringBuilder made = new StringBuilder();
        int cells = bench.ofTrack(track, 3);
        for (int place = 0; place < cells; place++) {
            made.append(bench.vote(track, place));
        }
        return made.toString();
    }

    /** The number w of a TURN, worked from its CELLS. */
    static int wordOf(String cells) {
        int w = 1;
        for (int i = 0; i < cells.length(); i++) {
            w = 3 * w + (cells.charAt(i) - '0');
        }
        return w;
    }

    static void writeAll(FluxBench bench, int track, int... values) {
        for (int value : values) {
            bench.write(track, value);
        }
    }

    /** A SECTOR of one BYTE without its last CELL: 8 of them fill a row of CODE 2. */
    static void shortSector(FluxBench bench, int track, int number, int datum) {
        bench.mark(track);
        writeAll(bench, track, number, 1, datum, (number + 1 + datum) % 256);
    }

    /** What one finds in the VOTE of TRACK 0: SECTORS, GOOD ones, STRAY ones, and whether one is CUT. */
    static String findsOf(FluxBench bench) {
        return bench.ofTrack(0, 5) + " " + bench.ofTrack(0, 6) + " " + bench.ofTrack(0, 7) + " " + bench.ofTrack(0, 8);
    }

    /** All values of a SECTOR, as ofSector() tells them. */
    static String sectorOf(FluxBench bench, int track, int sector) {
        StringBuilder made = new StringBuilder();
        for (int what = 0; what <= 8; what++) {
            made.append(what == 0 ? "" : " ").append(bench.ofSector(track, sector, what));
        }
        return made.toString();
    }
}
