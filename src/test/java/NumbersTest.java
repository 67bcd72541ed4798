/** Each call with numbers far out: it throws what the document names, and never the machine's own. */
final class NumbersTest {
    private static final int[] FAR = {Integer.MIN_VALUE, -65536, -401, -400, -4, -1, 4, 5, 400, 401, 65536, Integer.MAX_VALUE};

    private static void noTrack(FluxBench bench, int n) {
        Check.refusesPlace("write " + n, bench, () -> bench.write(n, n));
        Check.refusesPlace("mark " + n, bench, () -> bench.mark(n));
        Check.refusesPlace("sector " + n, bench, () -> bench.sector(n, n, n, n, true));
        Check.refusesPlace("weak " + n, bench, () -> bench.weak(n, n, true));
        Check.refusesPlace("dirt " + n, bench, () -> bench.dirt(n, n, n));
        Check.refusesPlace("clean " + n, bench, () -> bench.clean(n));
        Check.refusesPlace("read " + n, bench, () -> bench.read(n));
        Check.refusesPlace("copy from " + n, bench, () -> bench.copy(n, 0, true));
        Check.refusesPlace("copy to " + n, bench, () -> bench.copy(0, n, false));
        Check.refusesPlace("ofCell " + n, bench, () -> bench.ofCell(n, n, n));
        Check.refusesPlace("ofTrack " + n, bench, () -> bench.ofTrack(n, n));
        Check.refusesPlace("vote " + n, bench, () -> bench.vote(n, n));
        Check.refusesPlace("turn " + n, bench, () -> bench.turn(n, n, true));
        Check.refusesPlace("period " + n, bench, () -> bench.period(n, n));
        Check.refusesPlace("ofSector " + n, bench, () -> bench.ofSector(n, n, n));
        Check.refusesPlace("chain " + n, bench, () -> bench.chain(n, n));
        Check.refusesPlace("sure " + n, bench, () -> bench.sure(n));
        Check.refusesPlace("plainLong " + n, bench, () -> bench.plainLong(n));
        Check.refusesPlace("wouldLose " + n, bench, () -> bench.wouldLose(n));
        Check.refusesPlace("goodBy " + n, bench, () -> bench.goodBy(n, n));
        Check.refusesArgument("track " + n, bench, () -> bench.track(n));
        Check.refusesArgument("speed " + n, bench, () -> bench.speed(n));
    }

    private static void noPlace(FluxBench bench, int n) {
        Check.refusesPlace("weak at " + n, bench, () -> bench.weak(0, n, true));
        Check.refusesPlace("dirt from " + n, bench, () -> bench.dirt(0, n, 0));
        Check.refusesPlace("dirt to " + n, bench, () -> bench.dirt(0, 0, n));
        Check.refusesPlace("ofCell at " + n, bench, () -> bench.ofCell(0, n, n));
        Check.refusesPlace("vote at " + n, bench, () -> bench.vote(0, n));
    }

    private static void noneSuch(FluxBench bench, int n) {
        Check.refusesPlace("turn of " + n, bench, () -> bench.turn(0, n, true));
        Check.refusesPlace("period of " + n, bench, () -> bench.period(0, n));
        Check.refusesPlace("ofSector of " + n, bench, () -> bench.ofSector(0, n, n));
    }

    private static FluxBench withFourTracks() {
        FluxBench bench = Benches.withTrack(2);
        bench.track(0);
        bench.track(1);
        bench.track(2);
        for (int track = 0; track < 4; track++) {
            bench.sector(track, 1, 4, 0x01020304, true);
            bench.sector(track, 2, 1, 255, true);
            Benches.readTimes(bench, track, 3);
        }
        return bench;
    }

    public static void main(String[] args) {
        FluxBench empty = new FluxBench();
        for (int n : FAR) {
            FluxBench bench = withFourTracks();
            noTrack(bench, n);
            noneSuch(bench, n);
            boolean isPlace = n >= 0 && n < bench.ofTrack(0, 1);
            if (!isPlace) {
                noPlace(bench, n);
            }
            Check.refusesPlace("read without tracks " + n, empty, () -> empty.read(n));
        }
        FluxBench full = Benches.withTrack(0);
        for (int i = 0; i < 25; i++) {
            full.write(0, 255);
        }
        full.read(0);
        Check.same("a vote of 400", full.ofTrack(0, 3), 400);
        for (int n : FAR) {
            if (n < 0 || n >= 400) {
                noPlace(full, n);
            }
        }
        FluxBench bench = withFourTracks();
        Check.refusesArgument("write", bench, () -> bench.write(0, Integer.MIN_VALUE));
        Check.refusesArgument("sector", bench, () -> bench.sector(0, 1, 1, Integer.MIN_VALUE, true));
        Check.refusesArgument("sector", bench, () -> bench.sector(0, Integer.MAX_VALUE, 1, 1, true));
        Check.refusesArgument("sector", bench, () -> bench.sector(0, 1, Integer.MAX_VALUE, 1, true));
        Check.refusesArgument("ofCell", bench, () -> bench.ofCell(0, 0, Integer.MAX_VALUE));
        Check.refusesArgument("ofTrack", bench, () -> bench.ofTrack(0, Integer.MIN_VALUE));
        Check.refusesArgument("ofSector", bench, () -> bench.ofSector(0, 0, Integer.MAX_VALUE));
        Check.refusesArgument("chain", bench, () -> bench.chain(0, Integer.MIN_VALUE));
        Check.refusesArgument("many", bench, () -> bench.many(Integer.MAX_VALUE));
        Check.refusesArgument("goodBy", bench, () -> bench.goodBy(0, Integer.MIN_VALUE));
        Check.end("NumbersTest");
    }
}
