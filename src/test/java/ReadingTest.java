/** Promises 10 and 11, and 14 to 16: TURNS, what they tell, and copies. */
final class ReadingTest {
    private static void promise10Clock() {
        FluxBench bench = Benches.withTrack(2);
        bench.speed(11);
        bench.mark(0);
        Check.same("10: 11, 55 and 44 ticks", bench.read(0), 12);
        Check.sameText("10: its cells", Benches.voteOf(bench, 0), "100000100001");
        double period = 8.0 + (11.0 - 8.0) * 0.25;
        period = period + (55.0 / 6 - period) * 0.25;
        period = period + (44.0 / 5 - period) * 0.25;
        Check.sameDouble("16: its period", bench.period(0, 0), period);
        Check.same("15: its word", bench.turn(0, 0, true), Benches.wordOf("100000100001"));
        Check.same("15: its cells", bench.turn(0, 0, false), 12);
    }

    /** 20 / 8.0 is just between 2 and 3, 12 / 8.0 just between 1 and 2: both become 2. */
    private static void promise10Ties() {
        FluxBench bench = Benches.withTrack(2);
        bench.speed(10);
        bench.write(0, 0);
        Check.same("10: a tie down to 2", bench.read(0), 9);
        Check.sameText("10: the end without a 1 is lost", Benches.voteOf(bench, 0), "010100101");
        Check.sameDouble("16: 8.5 and on", bench.period(0, 0), 9.3671875);
        bench.track(2);
        bench.speed(6);
        bench.write(1, 0x88);
        Check.same("10: a tie up to 2", bench.read(1), 8);
        Check.sameText("10: its cells", Benches.voteOf(bench, 1), "01010101");
    }

    private static void promise10Held() {
        FluxBench low = Benches.withTrack(0);
        low.speed(6);
        Benches.writeAll(low, 0, 255, 255);
        low.speed(10);
        low.write(0, 255);
        Check.same("10: each 1 of width 10 becomes two cells", low.read(0), 64);
        Check.sameDouble("16: held to 6", low.period(0, 0), 6.0);
        FluxBench high = Benches.withTrack(0);
        high.speed(11);
        Benches.writeAll(high, 0, 255, 255);
        high.speed(8);
        high.write(0, 255);
        high.dirt(0, 32, 32);
        high.dirt(0, 34, 47);
        Check.same("10: 16 ticks are one cell", high.read(0), 33);
        Check.sameDouble("16: held to 11", high.period(0, 0), 11.0);
    }

    private static void promise10CutOff() {
        FluxBench bench = Benches.withTrack(0);
        bench.speed(11);
        for (int i = 0; i < 25; i++) {
            bench.write(0, 0);
        }
        int made = 0;
        int ticks = 11;
        double period = 8.0;
        for (int i = 0; i < 200; i++) {
            int n = Math.max(1, (int) Math.rint(ticks / period));
            made += n;
            period = Math.min(11.0, Math.max(6.0, period + ((double) ticks / n - period) * 0.25));
            ticks = 22;
        }
        Check.same("10: more than 400 are made", made > 400, true);
        Check.same("10: 400 are kept", bench.read(0), 400);
        Check.same("13: the vote has 400", bench.ofTrack(0, 3), 400);
        Check.sameDouble("16: the clock goes on to the end", bench.period(0, 0), period);
    }

    /** From 0 on the DRAWS are 7, 10, 9, 4, 11, 14, 13, 8, 15, 2, 1, 12, 3, 6, 5, 0. */
    private static void promise10Draws() {
        int[] draws = {7, 10, 9, 4, 11, 14, 13, 8, 15, 2, 1, 12, 3, 6, 5, 0, 7};
        FluxBench bench = Benches.withTrack(0);
        bench.track(2);
        bench.write(0, 0);
        bench.mark(1);
        bench.weak(0, 1, true);
        bench.weak(1, 9, true);
        for (int i = 0; i < draws.length; i++) {
            int track = i % 2;
            bench.read(track);
            Check.same("10: one draw for all tracks", bench.many(2), draws[i]);
            int turn = bench.ofTrack(track, 2) - 1;
            String due = track == 0 ? (draws[i] > 7 ? "111010101010101" : "101010101010101") : (draws[i] > 7 ? "1000010001" : "100001");
            Check.same("10: what comes of it", bench.turn(track, turn, true), Benches.wordOf(due));
        }
        bench.dirt(0, 1, 1);
        int before = bench.many(2);
        Benches.readTimes(bench, 0, 3);
        Check.same("10: no draw of what is dirty or shed", bench.many(2), before);
        Check.same("10: three are kept", bench.ofTrack(0, 2), 3);
        Check.same("10: read ever", bench.ofTrack(0, 10), 12);
        Check.same("10: of the other one", bench.ofTrack(1, 10), 8);
        Check.same("19: reads ever", bench.many(3), 20);
    }

    private static void promise10Dirty() {
        FluxBench bench = Benches.withTrack(2);
        bench.mark(0);
        bench.dirt(0, 5, 5);
        Check.same("10: a dirty cell is a 0", bench.read(0), 10);
        Check.same("10: its word", bench.turn(0, 0, true), Benches.wordOf("1000000001"));
        Check.same("10: dirty still", bench.ofCell(0, 5, 3), 1);
        bench.read(0);
        Check.same("10: shed", bench.ofCell(0, 5, 3), 2);
        bench.clean(0);
        bench.read(0);
        Check.same("10: a shed one is a 0", bench.turn(0, 2, true), Benches.wordOf("1000000001"));
        bench.dirt(0, 0, 9);
        Check.same("10: a turn without a 1", bench.read(0), 0);
        Check.same("10: is kept", bench.ofTrack(0, 2), 3);
        Check.sameDouble("16: as the clock began", bench.period(0, 2), 8.0);
        Check.same("15: its word", bench.turn(0, 2, true), 1);
        Check.same("15: without cells", bench.turn(0, 2, false), 0);
    }

    private static void promise10Refuses() {
        FluxBench bench = Benches.withTrack(2);
        Check.refusesState("10: an empty row", bench, () -> bench.read(0));
        Check.refusesPlace("10: no track", bench, () -> bench.read(1));
        Check.refusesPlace("10: track -1", bench, () -> bench.read(-1));
        Check.same("10: no turn came of it", bench.ofTrack(0, 2), 0);
    }

    private static FluxBench forCopies() {
        FluxBench bench = Benches.withTrack(2);
        bench.track(0);
        bench.speed(9);
        bench.sector(0, 7, 1, 3, true);
        bench.sector(0, 8, 1, 3, false);
        bench.sector(0, 9, 4, 0x01020304, true);
        bench.sector(0, 7, 2, 5, true);
        bench.write(1, 77);
        bench.weak(1, 2, true);
        bench.dirt(1, 3, 4);
        Benches.readTimes(bench, 1, 2);
        bench.read(0);
        return bench;
    }

    private static void promise11Plain() {
        FluxBench bench = forCopies();
        Check.same("11: the good ones of each number", bench.copy(0, 1, false), 51 + 81);
        Check.same("11: the code", bench.ofTrack(1, 0), 2);
        Check.same("11: the turns are gone", bench.ofTrack(1, 2), 0);
        Check.same("11: the vote is gone", bench.ofTrack(1, 3), 0);
        Check.same("11: sectors are gone", bench.ofTrack(1, 5), 0);
        Check.same("11: read ever stays", bench.ofTrack(1, 10), 2);
        Check.same("11: the width", bench.ofTrack(1, 11), 132 * 8);
        Check.same("11: steady", bench.ofCell(1, 2, 2), 0);
        Check.same("11: clean", bench.ofCell(1, 3, 3), 0);
        Check.same("19: no cell is shed", bench.many(4), 0);
        Check.same("19: plain", bench.many(5), 1);
        Check.same("19: raw", bench.many(6), 0);
        Check.same("11: it is read as it was written", bench.read(1), 132);
        Check.sameText("17: the first", Benches.sectorOf(bench, 1, 0), "0 7 1 1 11 3 -1 -1 -1");
        Check.sameText("17: the second", Benches.sectorOf(bench, 1, 1), "51 9 4 1 23 4 3 2 1");
        Check.same("11: the first track stays", bench.ofTrack(0, 1), 244);
    }

    private static void promise11PlainUntilFull() {
        FluxBench bench = Benches.withTrack(2);
        bench.track(2);
        for (int number = 0; number < 7; number++) {
            Benches.shortSector(bench, 0, number, 1);
        }
        Benches.shortSector(bench, 0, 7, 21);
        Check.same("11: 400 cells are read", bench.read(0), 400);
        Check.same("11: eight sectors", bench.ofTrack(0, 6), 8);
        Check.same("21: seven of them fit", bench.plainLong(0), 357);
        Check.same("22: it stays long", bench.wouldLose(0), 0);
        Check.same("11: seven of them", bench.copy(0, 1, false), 357);
        bench.read(1);
        Check.same("11: all good", bench.ofTrack(1, 6), 7);
    }

    private static void promise11Raw() {
        FluxBench bench = forCopies();
        String vote = Cells.MARK + Cells.grouped(7, 1, 3, 11) + "1" + Cells.MARK + Cells.grouped(8, 1, 3, 13) + "1"
            + Cells.MARK + Cells.grouped(9, 4, 4, 3, 2, 1, 23) + "1" + Cells.MARK + Cells.grouped(7, 2, 5, 0, 14) + "1";
        bench.weak(0, 1, true);
        bench.dirt(0, 2, 3);
        Check.same("11: the vote", bench.copy(0, 1, true), vote.length());
        Check.sameText("11: its cells", Benches.rowFrom(bench, 1, 0), vote);
        Check.same("11: the code", bench.ofTrack(1, 0), 2);
        Check.same("11: the turns are gone", bench.ofTrack(1, 2), 0);
        Check.same("11: the width", bench.ofTrack(1, 11), vote.length() * 8);
        for (int place = 0; place < 5; place++) {
            Check.same("11: steady", bench.ofCell(1, place, 2), 0);
            Check.same("11: clean", bench.ofCell(1, place, 3), 0);
        }
        Check.same("19: plain", bench.many(5), 0);
        Check.same("19: raw", bench.many(6), 1);
        Check.same("11: written behind it", bench.write(1, 0), vote.length() + 10);
        bench.dirt(0, 0, 243);
        bench.read(0);
        bench.read(0);
        Check.same("11: of an empty vote", bench.copy(0, 1, true), 0);
        Check.refusesState("11: which is not read", bench, () -> bench.read(1));
        Check.same("19: raw", bench.many(6), 2);
    }

    private static void promise11Refuses() {
        FluxBench bench = Benches.withTrack(2);
        bench.track(1);
        bench.mark(0);
        bench.mark(1);
        Check.refusesState("11: no turn", bench, () -> bench.copy(0, 1, true));
        Check.refusesState("11: no turn, plain", bench, () -> bench.copy(0, 1, false));
        Check.refusesArgument("11: both the same", bench, () -> bench.copy(1, 1, true));
        bench.read(0);
        Check.refusesState("11: the second one's turns do not count", bench, () -> bench.copy(1, 0, true));
        Check.refusesPlace("11: no first", bench, () -> bench.copy(2, 0, true));
        Check.refusesPlace("11: no second", bench, () -> bench.copy(0, 2, true));
        Check.refusesPlace("11: neither, and both the same", bench, () -> bench.copy(-1, -1, true));
    }

    private static void promise14Vote() {
        FluxBench bench = Benches.withTrack(0);
        bench.write(0, 255);
        bench.read(0);
        bench.dirt(0, 4, 4);
        bench.read(0);
        Check.same("14: the latest, if as many have each", bench.vote(0, 4), 0);
        Check.same("13: unsure", bench.ofTrack(0, 4), 1);
        bench.clean(0);
        bench.read(0);
        Check.same("14: what more have", bench.vote(0, 4), 1);
        Check.same("13: unsure still", bench.ofTrack(0, 4), 1);
        bench.dirt(0, 13, 15);
        bench.read(0);
        Check.same("13: the vote is as long as the shortest", bench.ofTrack(0, 3), 13);
        Check.same("13: unsure by one place and three cells", bench.ofTrack(0, 4), 4);
        Check.sameDouble("20: sure", bench.sure(0), 1.0 - 4.0 / 17);
        Check.refusesPlace("14: place 13", bench, () -> bench.vote(0, 13));
        Check.refusesPlace("14: place -1", bench, () -> bench.vote(0, -1));
        Check.refusesPlace("14: no track", bench, () -> bench.vote(1, 0));
        bench.read(0);
        Check.same("14: the oldest turn is gone", bench.ofTrack(0, 4), 3);
    }

    /** The latest TURN says otherwise than two others, and than one other. */
    private static void promise14VoteAndTheLatest() {
        FluxBench bench = Benches.withTrack(0);
        bench.write(0, 0xF0);
        Benches.readTimes(bench, 0, 2);
        bench.dirt(0, 4, 4);
        bench.read(0);
        Check.same("14: 1, 1, 0", bench.vote(0, 4), 1);
        bench.read(0);
        Check.same("14: 1, 0, 0", bench.vote(0, 4), 0);
        FluxBench other = Benches.withTrack(0);
        other.write(0, 0xF0);
        other.dirt(0, 4, 4);
        other.read(0);
        other.clean(0);
        other.read(0);
        Check.same("14: 0, 1", other.vote(0, 4), 1);
        Check.same("14: 0, 0", other.vote(0, 9), 0);
        Check.same("14: 1, 1", other.vote(0, 5), 1);
        FluxBench last = Benches.withTrack(0);
        last.write(0, 0xF0);
        last.dirt(0, 4, 4);
        last.read(0);
        last.clean(0);
        last.dirt(0, 4, 4);
        last.read(0);
        last.clean(0);
        last.read(0);
        Check.same("14: 0, 0, 1", last.vote(0, 4), 0);
        Check.same("14: unsure", last.ofTrack(0, 4), 1);
        Benches.readTimes(last, 0, 2);
        Check.same("14: sure", last.ofTrack(0, 4), 0);
    }

    private static void promise15And16Turns() {
        FluxBench bench = Benches.withTrack(2);
        bench.mark(0);
        Check.refusesPlace("15: no turn yet", bench, () -> bench.turn(0, 0, true));
        Check.refusesPlace("16: no turn yet", bench, () -> bench.period(0, 0));
        int[] lengths = new int[6];
        for (int i = 0; i < 6; i++) {
            lengths[i] = bench.read(0);
            Check.same("15: the latest", bench.turn(0, Math.min(i, 2), false), lengths[i]);
            bench.speed(6 + i);
            bench.write(0, 255);
        }
        for (int turn = 0; turn < 3; turn++) {
            Check.same("15: the oldest first", bench.turn(0, turn, false), lengths[3 + turn]);
        }
        Check.same("16: periods differ", bench.period(0, 0) != bench.period(0, 1), true);
        Check.refusesPlace("15: turn 3", bench, () -> bench.turn(0, 3, true));
        Check.refusesPlace("15: turn -1", bench, () -> bench.turn(0, -1, false));
        Check.refusesPlace("15: no track", bench, () -> bench.turn(1, 0, false));
        Check.refusesPlace("16: turn 3", bench, () -> bench.period(0, 3));
        Check.refusesPlace("16: turn -1", bench, () -> bench.period(0, -1));
        Check.refusesPlace("16: no track", bench, () -> bench.period(-1, 0));
        FluxBench again = Benches.withTrack(2);
        again.speed(11);
        again.mark(0);
        Benches.readTimes(again, 0, 4);
        Check.sameDouble("16: each turn begins at 8", again.period(0, 2), again.period(0, 0));
        Check.sameDouble("16: the fourth too", again.period(0, 2), again.period(0, 1));
        FluxBench full = Benches.withTrack(0);
        StringBuilder cells = new StringBuilder();
        for (int i = 0; i < 25; i++) {
            full.write(0, 255);
            cells.append("1111111111111111");
        }
        full.read(0);
        Check.same("15: the word wraps around", full.turn(0, 0, true), Benches.wordOf(cells.toString()));
    }

    public static void main(String[] args) {
        promise10Clock();
        promise10Ties();
        promise10Held();
        promise10CutOff();
        promise10Draws();
        promise10Dirty();
        promise10Refuses();
        promise11Plain();
        promise11PlainUntilFull();
        promise11Raw();
        promise11Refuses();
        promise14Vote();
        promise14VoteAndTheLatest();
        promise15And16Turns();
        Check.end("ReadingTest");
    }
}
