/** Benches whose VOTE or row is just what a test wants: BYTES are written, and CELLS made 0 by dirt. */
final class Patterns {
    private Patterns() {
    }

    /** TRACK 0 has that CODE (0 or 2) and was READ once: its VOTE is these CELLS, which end with a 1. */
    static FluxBench read(int code, String cells) {
        FluxBench bench = Benches.withTrack(code);
        int row = code == 0 ? fillWithOnes(bench, cells.length()) : fillWithGroups(bench, cells);
        soilZeros(bench, cells + "0".repeat(row - cells.length()));
        Check.same("the pattern is as long", bench.read(0), cells.length());
        Check.same("the pattern " + cells, bench.turn(0, 0, true), Benches.wordOf(cells));
        return bench;
    }

    private static int fillWithOnes(FluxBench bench, int length) {
        int row = 0;
        while (row < length) {
            row = bench.write(0, 255);
        }
        return row;
    }

    private static int fillWithGroups(FluxBench bench, String cells) {
        String whole = cells + "0".repeat((10 - cells.length() % 10) % 10);
        int row = 0;
        while (row < whole.length()) {
            int high = Cells.halfOver(whole.substring(row, row + 5));
            int low = Cells.halfOver(whole.substring(row + 5, row + 10));
            row = bench.write(0, 16 * high + low);
        }
        return row;
    }

    private static void soilZeros(FluxBench bench, String cells) {
        int from = cells.indexOf('0');
        while (from >= 0) {
            int behind = cells.indexOf('1', from);
            int to = (behind < 0 ? cells.length() : behind) - 1;
            bench.dirt(0, from, to);
            from = cells.indexOf('0', to + 1);
        }
    }

    /** TRACK 1 has that CODE and a row of just so many CELLS: zeros, and a 1 at its end. */
    static FluxBench rowOf(int code, int length) {
        FluxBench bench = Benches.withTrack(code);
        bench.track(code);
        int filler = fillerWithOneAt(code, length - 1);
        int row = 0;
        while (row < length) {
            row = bench.write(0, filler);
        }
        bench.dirt(0, 0, length - 2);
        if (row > length) {
            bench.dirt(0, length, row - 1);
        }
        bench.read(0);
        Check.same("a row of " + length, bench.copy(0, 1, true), length);
        return bench;
    }

    /** A BYTE that has a 1 at a place of a row that holds nothing but this BYTE. */
    private static int fillerWithOneAt(int code, int place) {
        if (code == 2) {
            return Cells.grouped(255).charAt(place % 10) == '1' ? 255 : 17;
        }
        return code == 0 || place % 2 == 1 ? 255 : 0;
    }
}
