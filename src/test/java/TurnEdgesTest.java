/** The document's part 2, and promises 10, 14 to 16 and 20: each sentence that names a boundary has a method here. */
final class TurnEdgesTest {
    private static final int[] DRAWS = {7, 10, 9, 4, 11, 14, 13, 8, 15, 2, 1, 12, 3, 6, 5, 0};

    /** A row of a BYTE 0 by CODE 0, whose second CELL, a 0, is WEAK. */
    private static FluxBench withWeakCell() {
        FluxBench bench = Benches.withTrack(0);
        bench.write(0, 0);
        bench.weak(0, 1, true);
        return bench;
    }

    private static void cameAt1(String what, FluxBench bench, boolean is1) {
        int latest = bench.ofTrack(0, 2) - 1;
        String due = is1 ? "111010101010101" : "101010101010101";
        Check.same(what, bench.turn(0, latest, true), Benches.wordOf(due));
    }

    /** "the DRAW becomes 5 DRAW and 7 modulo 16 (0 at first; ..)": sixteen DRAWS, and round again. */
    private static void theDrawGoesRoundBySixteen() {
        FluxBench bench = withWeakCell();
        Check.same("the DRAW at first", bench.many(2), 0);
        for (int i = 0; i < 33; i++) {
            bench.read(0);
            Check.same("draw " + i, bench.many(2), DRAWS[i % 16]);
        }
    }

    /** "and 1 comes, if it is above 7, otherwise 0": 7 is not, 8 is. */
    private static void above7A1Comes() {
        FluxBench bench = withWeakCell();
        for (int draw : DRAWS) {
            bench.read(0);
            cameAt1("what comes of a draw of " + draw, bench, draw > 7);
        }
    }

    /** "what comes is its BIT; of a WEAK one: the DRAW": a WEAK 1 can come as 0 too. */
    private static void theBitOfAWeakCellDoesNotMatter() {
        FluxBench bench = Benches.withTrack(2);
        bench.mark(0);
        bench.weak(0, 5, true);
        bench.read(0);
        Check.same("a 1 that comes as 0", bench.turn(0, 0, true), Benches.wordOf("1000000001"));
        bench.read(0);
        Check.same("a 1 that comes as 1", bench.turn(0, 1, true), Benches.wordOf("1000010001"));
        bench.weak(0, 5, false);
        Benches.readTimes(bench, 0, 2);
        Check.same("steady again, without a draw", bench.many(2), 10);
    }

    /** "(.. one for all)": TRACKS share it, benches do not. */
    private static void theDrawIsOneForAll() {
        FluxBench bench = withWeakCell();
        FluxBench other = withWeakCell();
        bench.track(0);
        bench.write(1, 0);
        bench.weak(1, 1, true);
        bench.read(0);
        bench.read(1);
        Check.same("the second draw was the other track's", bench.turn(1, 0, true), Benches.wordOf("111010101010101"));
        bench.read(0);
        Check.same("three draws", bench.many(2), 9);
        Check.same("another bench has its own", other.many(2), 0);
    }

    /** "CELL by CELL": the WEAK ones DRAW in the order of their places. */
    private static void drawsGoCellByCell() {
        FluxBench bench = Benches.withTrack(0);
        bench.write(0, 0);
        bench.weak(0, 3, true);
        bench.weak(0, 1, true);
        bench.read(0);
        Check.same("7 is at place 1, 10 at place 3", bench.turn(0, 0, true), Benches.wordOf("101110101010101"));
        Check.same("two draws", bench.many(2), 10);
    }

    /** "of a DIRTY or SHED one 0 (without a DRAW)": a WEAK one that is CLEAN, DIRTY, SHED. */
    private static void dirtyAndShedOnesAreNotDrawn() {
        FluxBench bench = withWeakCell();
        bench.read(0);
        bench.dirt(0, 1, 1);
        bench.read(0);
        cameAt1("a weak one that is dirty", bench, false);
        Check.same("no draw of it", bench.many(2), 7);
        bench.clean(0);
        bench.read(0);
        cameAt1("a weak one that is clean again", bench, true);
        Check.same("a draw of it", bench.many(2), 10);
        bench.dirt(0, 1, 1);
        Benches.readTimes(bench, 0, 3);
        cameAt1("a weak one that is shed", bench, false);
        Check.same("no draw of it either", bench.many(2), 10);
    }

    /** "A DIRTY CELL that has been READ twice, as DIRTY, is SHED.": once is not enough. */
    private static void readTwiceAsDirtyIsShed() {
        FluxBench bench = Benches.withTrack(2);
        bench.mark(0);
        Benches.readTimes(bench, 0, 3);
        bench.dirt(0, 0, 1);
        int[] due = {1, 1, 2, 2};
        for (int reads = 0; reads < due.length; reads++) {
            Check.same("a 1 after " + reads + " reads as dirty", bench.ofCell(0, 0, 3), due[reads]);
            Check.same("a 0 after " + reads + " reads as dirty", bench.ofCell(0, 1, 3), due[reads]);
            Check.same("shed of all rows", bench.many(4), due[reads] == 2 ? 2 : 0);
            bench.read(0);
        }
    }

    /** A READ of another TRACK is no READ of this one's CELLS. */
    private static void anotherTracksReadDoesNotCount() {
        FluxBench bench = Benches.withTrack(2);
        bench.track(2);
        bench.mark(0);
        bench.mark(1);
        bench.dirt(0, 0, 0);
        Benches.readTimes(bench, 1, 2);
        bench.read(0);
        Check.same("read once", bench.ofCell(0, 0, 3), 1);
    }

    /** So many CELLS of a WIDTH whose last one alone comes as 1: the CELLS that the clock makes of it. */
    private static void oneTickRun(int width, int cells, int due) {
        FluxBench bench = Benches.withTrack(0);
        bench.speed(width);
        int row = 0;
        while (row < cells) {
            row = bench.write(0, 255);
        }
        if (cells > 1) {
            bench.dirt(0, 0, cells - 2);
        }
        if (cells < row) {
            bench.dirt(0, cells, row - 1);
        }
        int ticks = width * cells;
        Check.same(ticks + " ticks", bench.read(0), Math.min(400, due));
        double period = 8.0 + ((double) ticks / due - 8.0) * 0.25;
        Check.sameDouble(ticks + " ticks, the period", bench.period(0, 0), period);
    }

    /** "n is Math.rint(TICKS / PERIOD)": what is just between two goes to the even one. */
    private static void tiesGoToTheEvenOne() {
        oneTickRun(6, 2, 2);
        oneTickRun(10, 2, 2);
        oneTickRun(7, 4, 4);
        oneTickRun(9, 4, 4);
        oneTickRun(11, 4, 6);
        oneTickRun(6, 10, 8);
        oneTickRun(11, 12, 16);
        oneTickRun(11, 20, 28);
    }

    /** "n is Math.rint(TICKS / PERIOD)": just below and just above such a middle. */
    private static void besideTiesTheNearestOneIsTaken() {
        oneTickRun(11, 1, 1);
        oneTickRun(9, 3, 3);
        oneTickRun(7, 3, 3);
        oneTickRun(11, 2, 3);
        oneTickRun(9, 11, 12);
        oneTickRun(7, 5, 4);
        oneTickRun(9, 5, 6);
        oneTickRun(7, 13, 11);
    }

    /** "at least 1": the least TICKS by the longest PERIOD are a CELL still. */
    private static void theLeastTicksAreOneCell() {
        FluxBench bench = Benches.withTrack(0);
        bench.speed(11);
        for (int i = 0; i < 8; i++) {
            bench.write(0, 255);
        }
        bench.speed(6);
        bench.write(0, 255);
        bench.dirt(0, 129, 143);
        Check.same("one of width 6 behind 128 of width 11", bench.read(0), 129);
        oneTickRun(6, 1, 1);
    }

    /** "n less 1 zeros and a 1 are put behind what was made": one CELL is a 1 alone, two are a 0 and a 1. */
    private static void oneCellIsA1Alone() {
        String[] rows = {"1", "01", "11", "001", "101", "0111"};
        for (String row : rows) {
            FluxBench bench = Patterns.read(0, row);
            Check.sameText("made again", Benches.voteOf(bench, 0), row);
            Check.sameDouble("a clock of 8", bench.period(0, 0), 8.0);
        }
    }

    /** "from the begin of the row to the end of the first CELL where 1 came, and from there ..": zeros ahead. */
    private static void ticksBeginWithTheRow() {
        FluxBench bench = Patterns.read(0, "0000000001000001");
        Check.same("nine zeros ahead", bench.vote(0, 9), 1);
        Check.same("none is lost", bench.ofTrack(0, 3), 16);
    }

    /** "(What is behind the last 1 is lost.)" */
    private static void whatIsBehindTheLast1IsLost() {
        FluxBench bench = Benches.withTrack(0);
        bench.write(0, 255);
        bench.dirt(0, 1, 15);
        Check.same("a 1 and fifteen zeros", bench.read(0), 1);
        Check.same("its word", bench.turn(0, 0, true), 4);
        Check.refusesPlace("no place behind it", bench, () -> bench.vote(0, 1));
    }

    /** A row where no 1 comes: a TURN without CELLS, and the clock as it began. */
    private static void aTurnMayBeEmpty() {
        FluxBench bench = Benches.withTrack(2);
        bench.mark(0);
        bench.dirt(0, 0, 9);
        Check.same("its cells", bench.read(0), 0);
        Check.same("it is kept", bench.ofTrack(0, 2), 1);
        Check.same("it is empty", bench.turn(0, 0, false), 0);
        Check.same("its word", bench.turn(0, 0, true), 1);
        Check.sameDouble("its period", bench.period(0, 0), 8.0);
        Check.same("the vote", bench.ofTrack(0, 3), 0);
        Check.same("unsure", bench.ofTrack(0, 4), 0);
        Check.sameDouble("how sure", bench.sure(0), 0.0);
        Check.refusesPlace("no place 0", bench, () -> bench.vote(0, 0));
    }

    /** "PERIOD (double) is 8.0": for each TURN anew. */
    private static void theClockBeginsAt8() {
        FluxBench bench = Benches.withTrack(0);
        bench.speed(11);
        bench.write(0, 255);
        bench.read(0);
        double first = bench.period(0, 0);
        Check.same("it followed", first > 10.9, true);
        Benches.readTimes(bench, 0, 2);
        Check.sameDouble("the second turn", bench.period(0, 1), first);
        Check.sameDouble("the third turn", bench.period(0, 2), first);
        for (int turn = 4; turn <= 7; turn++) {
            bench.read(0);
            Check.sameDouble("turn " + turn, bench.period(0, 2), first);
        }
        bench.dirt(0, 0, 15);
        bench.read(0);
        Check.sameDouble("one that hears nothing", bench.period(0, 2), 8.0);
    }

    /** "and held to 6.0 to ..": TICKS of 10 by a PERIOD near 6 are two CELLS, and would draw it below. */
    private static void thePeriodIsHeldTo6() {
        FluxBench bench = Benches.withTrack(0);
        bench.speed(6);
        bench.write(0, 255);
        bench.write(0, 255);
        bench.speed(10);
        bench.write(0, 255);
        bench.dirt(0, 33, 47);
        Check.same("the first of width 10 is two", bench.read(0), 34);
        Check.sameDouble("held", bench.period(0, 0), 6.0);
        bench.clean(0);
        bench.dirt(0, 34, 47);
        Check.same("and the second as well", bench.read(0), 36);
        Check.sameDouble("held still", bench.period(0, 1), 6.0);
    }

    /** "and held to .. 11.0": TICKS of 16 by a PERIOD near 11 are one CELL, and would draw it above. */
    private static void thePeriodIsHeldTo11() {
        FluxBench bench = Benches.withTrack(0);
        bench.speed(11);
        bench.write(0, 255);
        bench.write(0, 255);
        bench.speed(8);
        bench.write(0, 255);
        bench.dirt(0, 32, 32);
        bench.dirt(0, 34, 47);
        Check.same("16 ticks are one", bench.read(0), 33);
        Check.sameDouble("held", bench.period(0, 0), 11.0);
        FluxBench below = Benches.withTrack(0);
        below.speed(11);
        below.write(0, 255);
        below.read(0);
        double period = 8.0;
        for (int i = 0; i < 16; i++) {
            period = period + (11.0 - period) * 0.25;
        }
        Check.sameDouble("below 11 it is not held", below.period(0, 0), period);
    }

    /** "at most 400 CELLS of it are kept": just 400, with the last 1. */
    private static void justSo400AreKept() {
        FluxBench bench = Patterns.read(0, "1".repeat(400));
        Check.same("the last place", bench.vote(0, 399), 1);
        Check.refusesPlace("no place 400", bench, () -> bench.vote(0, 400));
        FluxBench less = Patterns.read(0, "1".repeat(399));
        Check.refusesPlace("no place 399", less, () -> less.vote(0, 399));
    }

    /** A full row of CODE 0 whose first BYTE has WIDTH 11, and begins with zeros. */
    private static FluxBench stretched(int zerosAhead) {
        FluxBench bench = Benches.withTrack(0);
        bench.speed(11);
        bench.write(0, 255);
        bench.speed(8);
        for (int i = 0; i < 24; i++) {
            bench.write(0, 255);
        }
        bench.dirt(0, 0, zerosAhead - 1);
        return bench;
    }

    /** "(what is beyond is cut off; ..)": 33 ticks are four CELLS, so 401 are made. */
    private static void oneBeyond400IsCutOff() {
        FluxBench bench = stretched(2);
        Check.same("401 are made, 400 kept", bench.read(0), 400);
        Check.same("its word", bench.turn(0, 0, true), Benches.wordOf("0001" + "1".repeat(396)));
        Check.same("the length", bench.turn(0, 0, false), 400);
        FluxBench less = stretched(2);
        less.dirt(0, 399, 399);
        Check.same("400 are made and kept", less.read(0), 400);
        Check.same("the same word", less.turn(0, 0, true), Benches.wordOf("0001" + "1".repeat(396)));
    }

    /** "(what is beyond is cut off; ..)": amid the zeros of one of the TICKS, so that the TURN ends with a 0. */
    private static void zerosMayBeCutOff() {
        FluxBench bench = stretched(3);
        bench.dirt(0, 395, 398);
        Check.same("402 are made, 400 kept", bench.read(0), 400);
        Check.same("its word", bench.turn(0, 0, true), Benches.wordOf("000001" + "1".repeat(391) + "000"));
        Check.same("the vote ends with a 0", bench.vote(0, 399), 0);
    }

    /** "the clock goes on to the end": what is cut off moves the PERIOD. */
    private static void theClockGoesOnBeyond400() {
        FluxBench bench = Benches.withTrack(0);
        bench.speed(11);
        for (int i = 0; i < 24; i++) {
            bench.write(0, 255);
        }
        bench.speed(6);
        bench.write(0, 255);
        bench.dirt(0, 0, 382);
        Check.same("384 of width 11 are 528", bench.read(0), 400);
        Check.same("of which all zeros are kept", bench.turn(0, 0, true), Benches.wordOf("0".repeat(400)));
        double period = 8.0;
        for (int i = 0; i < 16; i++) {
            period = period + (6.0 - period) * 0.25;
        }
        Check.sameDouble("sixteen of width 6 were heard", bench.period(0, 0), period);
    }

    /** The longest TICKS that a row can have, and the longest that just make 300 CELLS. */
    private static void aFullRowMayBeOneTick() {
        oneTickRun(11, 400, 550);
        oneTickRun(6, 400, 300);
        oneTickRun(8, 400, 400);
    }

    /** "The latest 3 TURNS of a TRACK are kept, with the PERIOD at the end of each." */
    private static void theFourthTurnDrivesOutTheFirst() {
        FluxBench bench = Benches.withTrack(0);
        double[] periods = new double[7];
        for (int i = 0; i < 7; i++) {
            bench.speed(6 + i % 6);
            bench.write(0, 255);
            int kept = Math.min(3, i + 1);
            Check.same("its cells", bench.read(0), 16 * (i + 1));
            periods[i] = bench.period(0, kept - 1);
            Check.same("turns that are kept", bench.ofTrack(0, 2), kept);
            for (int turn = 0; turn < kept; turn++) {
                int which = i + 1 - kept + turn;
                Check.same("the oldest first", bench.turn(0, turn, false), 16 * (which + 1));
                Check.sameDouble("with its period", bench.period(0, turn), periods[which]);
            }
            Check.refusesPlace("no more turns", bench, () -> bench.turn(0, kept, false));
        }
    }

    /** "Without TURNS it is empty." */
    private static void withoutTurnsTheVoteIsEmpty() {
        FluxBench bench = Benches.withTrack(0);
        bench.write(0, 255);
        Check.same("the cells of the vote", bench.ofTrack(0, 3), 0);
        Check.same("unsure", bench.ofTrack(0, 4), 0);
        Check.sameDouble("how sure", bench.sure(0), 0.0);
        Check.refusesPlace("no place 0", bench, () -> bench.vote(0, 0));
    }

    /** "a row as long as the shortest of its TURNS": which is the oldest, the one between, the latest, or empty. */
    private static void theVoteIsAsLongAsTheShortest() {
        for (int shortest = 0; shortest < 3; shortest++) {
            FluxBench bench = Benches.withTrack(0);
            bench.write(0, 255);
            for (int i = 0; i < 3; i++) {
                if (i == shortest) {
                    bench.dirt(0, 9, 15);
                }
                bench.read(0);
                bench.clean(0);
            }
            Check.same("the cells of the vote", bench.ofTrack(0, 3), 9);
            Check.same("the longest has seven more", bench.ofTrack(0, 4), 7);
            Check.refusesPlace("no place behind the shortest", bench, () -> bench.vote(0, 9));
            bench.dirt(0, 0, 15);
            bench.read(0);
            Check.same("an empty one empties the vote", bench.ofTrack(0, 3), 0);
            Check.same("the longest has all more", bench.ofTrack(0, 4), 16);
        }
    }

    /** One bench READ so often, with place 4 as 1 or as 0, as the text tells. */
    private static FluxBench readAs(String ones) {
        FluxBench bench = Benches.withTrack(0);
        bench.write(0, 255);
        for (char one : ones.toCharArray()) {
            if (one == '0') {
                bench.dirt(0, 4, 4);
            }
            bench.read(0);
            bench.clean(0);
        }
        return bench;
    }

    /** "or what the latest one has, if as many have each": only two TURNS can be so. */
    private static void ofTwoTurnsTheLatestTells() {
        Check.same("0, then 1", readAs("01").vote(0, 4), 1);
        Check.same("1, then 0", readAs("10").vote(0, 4), 0);
        Check.same("0 and 0", readAs("00").vote(0, 4), 0);
        Check.same("1 and 1", readAs("11").vote(0, 4), 1);
    }

    /** "in each place what more of the TURNS have there": of one, and of three. */
    private static void moreTurnsTell() {
        Check.same("one turn with 0", readAs("0").vote(0, 4), 0);
        Check.same("one turn with 1", readAs("1").vote(0, 4), 1);
        String[] turns = {"000", "001", "010", "011", "100", "101", "110", "111"};
        int[] due = {0, 0, 0, 1, 0, 1, 1, 1};
        for (int i = 0; i < turns.length; i++) {
            Check.same("three turns with " + turns[i], readAs(turns[i]).vote(0, 4), due[i]);
            Check.same("the turn ahead counts no more", readAs("1" + turns[i]).vote(0, 4), due[i]);
        }
    }

    /** "UNSURE is in how many places of the VOTE not all TURNS have the same, and how many CELLS the longest .." */
    private static void unsureIsBothTogether() {
        Check.same("one turn", readAs("1").ofTrack(0, 4), 0);
        Check.same("two that are the same", readAs("11").ofTrack(0, 4), 0);
        Check.same("two that are not", readAs("10").ofTrack(0, 4), 1);
        Check.same("one of three", readAs("010").ofTrack(0, 4), 1);
        Check.same("it is a place once", readAs("101").ofTrack(0, 4), 1);
        FluxBench bench = readAs("1");
        bench.dirt(0, 4, 5);
        bench.dirt(0, 13, 15);
        bench.read(0);
        Check.same("two places and three cells", bench.ofTrack(0, 4), 5);
        bench.clean(0);
        bench.dirt(0, 15, 15);
        bench.read(0);
        Check.same("the longest and the shortest", bench.ofTrack(0, 4), 5);
        FluxBench behind = Benches.withTrack(0);
        behind.write(0, 255);
        behind.read(0);
        behind.dirt(0, 10, 10);
        behind.read(0);
        behind.dirt(0, 8, 15);
        behind.read(0);
        Check.same("behind the shortest no place counts", behind.ofTrack(0, 4), 8);
    }

    /** "0.0 without TURNS, or if both of these are 0": both, and just one of them. */
    private static void sureHasItsEnds() {
        FluxBench bench = Benches.withTrack(0);
        bench.write(0, 255);
        Check.sameDouble("without turns", bench.sure(0), 0.0);
        bench.dirt(0, 0, 15);
        bench.read(0);
        Check.sameDouble("both are 0", bench.sure(0), 0.0);
        bench.clean(0);
        bench.read(0);
        Check.sameDouble("the vote is 0", bench.sure(0), 0.0);
        Benches.readTimes(bench, 0, 2);
        Check.sameDouble("unsure is 0", bench.sure(0), 1.0);
        bench.dirt(0, 15, 15);
        bench.read(0);
        Check.sameDouble("one of fifteen and one", bench.sure(0), 1.0 - 1.0 / 16);
        Check.sameDouble("one turn alone is sure", readAs("1").sure(0), 1.0);
        FluxBench odd = readAs("010");
        Check.sameDouble("one of sixteen and one", odd.sure(0), 1.0 - 1.0 / 17);
    }

    /** "1.0 less (double) UNSURE / (..)": in that order, where the VOTE / (..) is another double. */
    private static void sureIsReckonedInItsOrder() {
        FluxBench bench = readAs("1");
        bench.dirt(0, 4, 4);
        bench.dirt(0, 6, 6);
        bench.dirt(0, 8, 8);
        bench.dirt(0, 14, 15);
        bench.read(0);
        Check.same("the vote", bench.ofTrack(0, 3), 14);
        Check.same("unsure", bench.ofTrack(0, 4), 5);
        Check.same("14 of 19 is another double", 14.0 / 19 == 1.0 - 5.0 / 19, false);
        Check.sameDouble("five of fourteen and five", bench.sure(0), 1.0 - 5.0 / 19);
    }

    /** "IllegalStateException if its row is empty" */
    private static void anEmptyRowIsNotRead() {
        FluxBench bench = Benches.withTrack(2);
        Check.refusesState("a new track", bench, () -> bench.read(0));
        Check.same("no read came of it", bench.many(3), 0);
        Check.same("nor of the track", bench.ofTrack(0, 10), 0);
        bench.mark(0);
        Check.same("a mark is enough", bench.read(0), 10);
        bench.track(2);
        bench.dirt(0, 0, 9);
        Benches.readTimes(bench, 0, 2);
        bench.copy(0, 1, true);
        Check.refusesState("a row that a copy left empty", bench, () -> bench.read(1));
    }

    /** "IndexOutOfBoundsException if there is no such TRACK, or TURN": turn() and period(). */
    private static void turnsGoFrom0ToTheLatest() {
        FluxBench bench = Benches.withTrack(0);
        bench.write(0, 255);
        for (int kept = 0; kept <= 3; kept++) {
            int[] wrong = {-1, kept, kept + 1, Integer.MIN_VALUE, Integer.MAX_VALUE};
            for (int turn : wrong) {
                Check.refusesPlace("turn " + turn, bench, () -> bench.turn(0, turn, true));
                Check.refusesPlace("how long is turn " + turn, bench, () -> bench.turn(0, turn, false));
                Check.refusesPlace("the period of " + turn, bench, () -> bench.period(0, turn));
            }
            bench.read(0);
        }
        Check.same("the first", bench.turn(0, 0, false), 16);
        Check.same("the last", bench.turn(0, 2, false), 16);
    }

    /** "which starts with 1, and becomes 3 w and the CELL (which wraps around as a 32-bit integer)" */
    private static void theWordWrapsAround() {
        int[] lengths = {1, 18, 19, 20, 21, 64, 400};
        for (int length : lengths) {
            FluxBench bench = Patterns.read(0, "1".repeat(length));
            long w = 1;
            for (int i = 0; i < length; i++) {
                w = (3 * w + 1) % (1L << 32);
            }
            Check.same("the word of " + length, bench.turn(0, 0, true), (int) w);
        }
    }

    public static void main(String[] args) {
        theDrawGoesRoundBySixteen();
        above7A1Comes();
        theBitOfAWeakCellDoesNotMatter();
        theDrawIsOneForAll();
        drawsGoCellByCell();
        dirtyAndShedOnesAreNotDrawn();
        readTwiceAsDirtyIsShed();
        anotherTracksReadDoesNotCount();
        tiesGoToTheEvenOne();
        besideTiesTheNearestOneIsTaken();
        theLeastTicksAreOneCell();
        oneCellIsA1Alone();
        ticksBeginWithTheRow();
        whatIsBehindTheLast1IsLost();
        aTurnMayBeEmpty();
        theClockBeginsAt8();
        thePeriodIsHeldTo6();
        thePeriodIsHeldTo11();
        justSo400AreKept();
        oneBeyond400IsCutOff();
        zerosMayBeCutOff();
        theClockGoesOnBeyond400();
        aFullRowMayBeOneTick();
        theFourthTurnDrivesOutTheFirst();
        withoutTurnsTheVoteIsEmpty();
        theVoteIsAsLongAsTheShortest();
        ofTwoTurnsTheLatestTells();
        moreTurnsTell();
        unsureIsBothTogether();
        sureHasItsEnds();
        sureIsReckonedInItsOrder();
        anEmptyRowIsNotRead();
        turnsGoFrom0ToTheLatest();
        theWordWrapsAround();
        Check.end("TurnEdgesTest");
    }
}
