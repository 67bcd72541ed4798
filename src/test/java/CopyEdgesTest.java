/** The document's part 4, and promises 11, 21 and 22: each sentence that names a boundary has a method here. */
final class CopyEdgesTest {
    /** TRACK 0 holds two SECTORS by a CODE and was READ once; TRACK 1 is full, weak, dirty, shed and READ thrice. */
    private static FluxBench overSpoiled(int code, int goalCode) {
        FluxBench bench = Benches.withTrack(code);
        bench.track(goalCode);
        bench.sector(0, 1, 1, 7, true);
        bench.sector(0, 2, 1, 7, true);
        bench.read(0);
        bench.speed(9);
        while (bench.ofTrack(1, 1) < 400) {
            bench.write(1, 255);
        }
        bench.weak(1, 0, true);
        bench.dirt(1, 2, 5);
        Benches.readTimes(bench, 1, 2);
        bench.dirt(1, 6, 9);
        bench.read(1);
        Check.same("four are shed", bench.many(4), 4);
        return bench;
    }

    /** "whose row and TURNS are gone by that": by a PLAIN and by a RAW copy. */
    private static void theRowAndTheTurnsAreGone() {
        for (int kind = 0; kind < 2; kind++) {
            FluxBench bench = overSpoiled(2, 0);
            Check.same("the copy's cells", bench.copy(0, 1, kind == 1), 102);
            int[] due = {2, 102, 0, 0, 0, 0, 0, 0, 0, 0, 3, 816};
            for (int what = 0; what < due.length; what++) {
                Check.same("what " + what + " of kind " + kind, bench.ofTrack(1, what), due[what]);
            }
            Check.same("none is shed", bench.many(4), 0);
            Check.refusesPlace("no place of the old row", bench, () -> bench.ofCell(1, 102, 0));
            Check.refusesPlace("no old turn", bench, () -> bench.turn(1, 0, true));
            Check.refusesPlace("no old vote", bench, () -> bench.vote(1, 0));
            Check.same("the first turn since", bench.read(1), 102);
            Check.same("one is kept", bench.ofTrack(1, 2), 1);
            Check.same("it is the copy's", bench.turn(1, 0, true), bench.turn(0, 0, true));
        }
    }

    /** "all STEADY, CLEAN": and how often a CELL was READ as DIRTY is gone with the row. */
    private static void theCopyIsSteadyAndClean() {
        for (int kind = 0; kind < 2; kind++) {
            FluxBench bench = overSpoiled(2, 0);
            bench.copy(0, 1, kind == 1);
            for (int place = 0; place < 12; place++) {
                Check.same("steady at " + place, bench.ofCell(1, place, 2), 0);
                Check.same("clean at " + place, bench.ofCell(1, place, 3), 0);
            }
            bench.dirt(1, 5, 6);
            bench.read(1);
            Check.same("where it was read once as dirty", bench.ofCell(1, 6, 3), 1);
            Check.same("where it was shed", bench.ofCell(1, 5, 3), 1);
            Check.same("no draw", bench.many(2), 9);
        }
    }

    /** "it gets the CODE of the first one": each by each. */
    private static void theCodeIsTheFirstOnes() {
        for (int code = 0; code <= 2; code++) {
            for (int goal = 0; goal <= 2; goal++) {
                FluxBench bench = overSpoiled(code, goal);
                int cells = 2 * Cells.ofSector(code, 1);
                Check.same("plain", bench.copy(0, 1, false), cells);
                Check.same("the code", bench.ofTrack(1, 0), code);
                Check.same("what is written by it", bench.write(1, 0), cells + Cells.ofByte(code));
                Check.same("raw", bench.copy(0, 1, true), cells);
                Check.same("the code", bench.ofTrack(1, 0), code);
                bench.read(1);
                Check.same("what is read by it", bench.ofTrack(1, 6), 2);
            }
        }
    }

    /** "A copy of a TRACK goes into another one": the first one stays as it is. */
    private static void theFirstOneStays() {
        for (int kind = 0; kind < 2; kind++) {
            FluxBench bench = overSpoiled(2, 0);
            StringBuilder before = new StringBuilder();
            StringBuilder after = new StringBuilder();
            for (int what = 0; what < 12; what++) {
                before.append(' ').append(bench.ofTrack(0, what));
            }
            before.append(Benches.sectorOf(bench, 0, 1)).append(bench.turn(0, 0, true));
            bench.copy(0, 1, kind == 1);
            bench.write(1, 3);
            bench.read(1);
            for (int what = 0; what < 12; what++) {
                after.append(' ').append(bench.ofTrack(0, what));
            }
            after.append(Benches.sectorOf(bench, 0, 1)).append(bench.turn(0, 0, true));
            Check.sameText("the first track", after.toString(), before.toString());
        }
    }

    /** "the first GOOD SECTOR of each NUMBER, in the order of the SECTORS" */
    private static void theFirstGoodOneOfEachNumberIsWritten() {
        FluxBench bench = Benches.withTrack(2);
        bench.track(2);
        bench.sector(0, 9, 1, 1, false);
        bench.sector(0, 5, 1, 2, true);
        bench.sector(0, 9, 2, 3, true);
        bench.sector(0, 5, 1, 4, true);
        bench.sector(0, 9, 1, 5, true);
        bench.sector(0, 0, 1, 6, true);
        bench.read(0);
        Check.same("three of six", bench.copy(0, 1, false), 51 + 61 + 51);
        bench.read(1);
        Check.sameText("three good ones", bench.ofTrack(1, 5) + " " + bench.ofTrack(1, 6), "3 3");
        Check.sameText("the first", Benches.sectorOf(bench, 1, 0), "0 5 1 1 8 2 -1 -1 -1");
        Check.sameText("the second", Benches.sectorOf(bench, 1, 1), "51 9 2 1 14 3 0 -1 -1");
        Check.sameText("the third", Benches.sectorOf(bench, 1, 2), "112 0 1 1 7 6 -1 -1 -1");
    }

    /** "the first GOOD SECTOR of each NUMBER": once each, however often the TRACK was READ and copied. */
    private static void eachNumberIsWrittenOnce() {
        FluxBench bench = Benches.withTrack(2);
        bench.track(2);
        bench.sector(0, 1, 1, 1, true);
        bench.sector(0, 2, 1, 1, true);
        for (int reads = 1; reads <= 4; reads++) {
            bench.read(0);
            Check.same("told ahead", bench.plainLong(0), 102);
            Check.same("the copy", bench.copy(0, 1, false), 102);
            Check.same("the copy again", bench.copy(0, 1, false), 102);
            Check.same("told of a copy that was not read", bench.plainLong(1), 0);
        }
        bench.read(1);
        Check.same("the copy of the copy", bench.copy(1, 0, false), 102);
    }

    /** A TRACK without a GOOD SECTOR: nothing is written, and it is a PLAIN copy still. */
    private static void withoutGoodOnesThePlainCopyIsEmpty() {
        FluxBench bench = Benches.withTrack(1);
        bench.track(0);
        bench.sector(0, 1, 1, 1, false);
        bench.read(0);
        bench.write(1, 255);
        Check.same("its cells", bench.copy(0, 1, false), 0);
        Check.same("its row", bench.ofTrack(1, 1), 0);
        Check.same("its code", bench.ofTrack(1, 0), 1);
        Check.same("plain copies", bench.many(5), 1);
        Check.refusesState("it cannot be read", bench, () -> bench.read(1));
        Check.refusesState("nor copied", bench, () -> bench.copy(1, 0, false));
    }

    /** "with the WIDTH 8": whatever the SPEED is, and was. */
    private static void theWidthIs8() {
        for (int kind = 0; kind < 2; kind++) {
            FluxBench bench = Benches.withTrack(2);
            bench.track(2);
            bench.speed(9);
            int cells = bench.sector(0, 1, 1, 17, true);
            bench.read(0);
            bench.speed(11);
            Check.same("the copy's cells", bench.copy(0, 1, kind == 1), cells);
            Check.same("the first width", bench.ofCell(1, 0, 1), 8);
            Check.same("the last width", bench.ofCell(1, cells - 1, 1), 8);
            Check.same("all widths", bench.ofTrack(1, 11), 8 * cells);
            Check.same("the speed stays", bench.many(1), 11);
            bench.mark(1);
            Check.same("what is written behind it", bench.ofCell(1, cells, 1), 11);
        }
    }

    /** SECTORS of CODE 2 without their last CELLS, NUMBERS from 0, with so many BYTES of DATA each. */
    private static FluxBench shortSectors(int... counts) {
        FluxBench bench = Benches.withTrack(2);
        bench.track(2);
        for (int number = 0; number < counts.length; number++) {
            bench.mark(0);
            bench.write(0, number);
            bench.write(0, counts[number]);
            boolean isLast = number == counts.length - 1;
            int first = isLast ? (256 + 17 - number - counts[number]) % 256 : 0;
            bench.write(0, first);
            for (int i = 1; i < counts[number]; i++) {
                bench.write(0, 0);
            }
            bench.write(0, isLast ? 17 : number + counts[number]);
        }
        bench.read(0);
        Check.same("all are good", bench.ofTrack(0, 6), counts.length);
        return bench;
    }

    private static void fits(String what, int due, int sectors, int... counts) {
        FluxBench bench = shortSectors(counts);
        Check.same(what + ", told ahead", bench.plainLong(0), due);
        Check.same(what, bench.copy(0, 1, false), due);
        bench.read(1);
        Check.same(what + ", its sectors", bench.ofTrack(1, 6), sectors);
        Check.same(what + ", and nothing else", bench.ofTrack(1, 7) + bench.ofTrack(1, 8), 0);
    }

    /** "until one does not fit whole any more": 397, 407 and 408 CELLS, and the longest SECTORS. */
    private static void whatDoesNotFitWholeIsNotWritten() {
        fits("397 fit", 397, 7, 1, 1, 1, 1, 1, 2, 4);
        fits("407 do not", 407 - 81, 6, 1, 1, 1, 1, 2, 2, 4);
        fits("the shortest of 407 does not", 407 - 51, 6, 4, 1, 1, 2, 2, 1, 1);
        fits("408 do not", 357, 7, 1, 1, 1, 1, 1, 1, 1, 1);
        fits("four of the longest fit", 324, 4, 4, 4, 4, 4);
        fits("five of the longest do not", 324, 4, 4, 4, 4, 4, 4);
    }

    /** "is written anew, as sector() does": every BYTE up to 255, though sector() is told no such DATA. */
    private static void dataOfAnyBytesIsWrittenAnew() {
        for (int code = 0; code <= 2; code++) {
            FluxBench bench = Benches.withTrack(code);
            bench.track(0);
            bench.mark(0);
            Benches.writeAll(bench, 0, 255, 4, 127, 128, 254, 255, (255 + 4 + 127 + 128 + 254 + 255) % 256, 255);
            bench.read(0);
            Check.same("one sector", bench.copy(0, 1, false), Cells.ofSector(code, 4));
            bench.read(1);
            Check.sameText("its bytes", Benches.sectorOf(bench, 1, 0), "0 255 4 1 255 127 128 254 255");
            String due = Cells.MARK + Cells.byCode(code, 255, 4, 127, 128, 254, 255, 255) + "1";
            Check.sameText("its cells", Benches.rowFrom(bench, 1, 0), due);
        }
    }

    /** CLOCKS of CODE 1 are written anew too: the first SECTOR's SUM is not ahead of the second's NUMBER. */
    private static void clocksAreWrittenAnew() {
        FluxBench bench = Benches.withTrack(1);
        bench.track(0);
        bench.sector(0, 1, 1, 1, true);
        bench.sector(0, 127, 1, 0, true);
        bench.dirt(0, 10, 10);
        bench.read(0);
        bench.copy(0, 1, false);
        String due = Cells.MARK + Cells.clocked(0, 1, 1, 1, 3) + "1" + Cells.MARK + Cells.clocked(0, 127, 1, 0, 128) + "1";
        Check.sameText("the copy's cells", Benches.rowFrom(bench, 1, 0), due);
    }

    /** "RAW: the VOTE becomes its row": of 1, 399 and 400 CELLS. */
    private static void aRawCopyIsAsLongAsTheVote() {
        int[] lengths = {1, 399, 400};
        for (int length : lengths) {
            FluxBench bench = Patterns.read(0, "1".repeat(length));
            bench.track(0);
            Check.same("the copy", bench.copy(0, 1, true), length);
            Check.same("its last cell", bench.ofCell(1, length - 1, 0), 1);
            Check.same("it is read as it is", bench.read(1), length);
        }
    }

    /** "RAW: the VOTE becomes its row": an empty one, which is a RAW copy still. */
    private static void aRawCopyOfAnEmptyVoteIsEmpty() {
        FluxBench bench = Patterns.read(0, "1");
        bench.track(1);
        bench.write(1, 1);
        bench.dirt(0, 0, 0);
        bench.read(0);
        Check.same("the vote is empty", bench.ofTrack(0, 3), 0);
        Check.same("the copy", bench.copy(0, 1, true), 0);
        Check.same("raw copies", bench.many(6), 1);
        Check.refusesState("it cannot be read", bench, () -> bench.read(1));
    }

    /** "RAW: the VOTE becomes its row": one that was cut off, and ends with zeros, which a READ then loses. */
    private static void aRawCopyMayEndWithZeros() {
        FluxBench bench = Benches.withTrack(0);
        bench.track(0);
        bench.speed(11);
        for (int i = 0; i < 25; i++) {
            bench.write(0, 255);
        }
        bench.dirt(0, 0, 2);
        bench.dirt(0, 390, 398);
        Check.same("the turn is full", bench.read(0), 400);
        Check.same("it ends with a 0", bench.vote(0, 399), 0);
        Check.same("the copy", bench.copy(0, 1, true), 400);
        Check.same("its last cell", bench.ofCell(1, 399, 0), 0);
        int last = 399;
        while (bench.vote(0, last) == 0) {
            last--;
        }
        Check.same("a read ends with the last 1", bench.read(1), last + 1);
    }

    /** "RAW: the VOTE becomes its row": what more TURNS told, and not the row nor the latest TURN. */
    private static void aRawCopyIsOfTheVote() {
        FluxBench bench = Patterns.read(0, "1111");
        bench.read(0);
        bench.dirt(0, 1, 1);
        bench.read(0);
        bench.clean(0);
        bench.dirt(0, 2, 3);
        bench.track(0);
        bench.copy(0, 1, true);
        Check.sameText("the copy", Benches.rowFrom(bench, 1, 0), "1111");
        bench.read(0);
        bench.copy(0, 1, true);
        Check.sameText("the shorter one", Benches.rowFrom(bench, 1, 0), "11");
    }

    /** "IndexOutOfBoundsException if there is no such TRACK, of both" */
    private static void bothTracksHaveToBe() {
        FluxBench bench = Patterns.read(0, "1");
        bench.track(0);
        int[] wrong = {-1, 2, 4, Integer.MIN_VALUE, Integer.MAX_VALUE};
        for (int track : wrong) {
            Check.refusesPlace("from " + track, bench, () -> bench.copy(track, 1, true));
            Check.refusesPlace("to " + track, bench, () -> bench.copy(0, track, true));
            Check.refusesPlace("from and to " + track, bench, () -> bench.copy(track, track, false));
            Check.refusesPlace("from one without turns to " + track, bench, () -> bench.copy(1, track, false));
        }
    }

    /** "IllegalArgumentException if both are the same": with and without TURNS. */
    private static void bothAreNotTheSame() {
        FluxBench bench = Patterns.read(0, "1");
        bench.track(0);
        Check.refusesArgument("with a turn", bench, () -> bench.copy(0, 0, true));
        Check.refusesArgument("with a turn, plain", bench, () -> bench.copy(0, 0, false));
        Check.refusesArgument("without a turn", bench, () -> bench.copy(1, 1, true));
    }

    /** "IllegalStateException if the first one has no TURN": the second one's do not count. */
    private static void theFirstOneHasToHaveATurn() {
        FluxBench bench = Patterns.read(0, "1");
        bench.track(0);
        bench.write(1, 255);
        Check.refusesState("not read", bench, () -> bench.copy(1, 0, true));
        Check.refusesState("not read, plain", bench, () -> bench.copy(1, 0, false));
        Check.same("the other way", bench.copy(0, 1, true), 1);
        Check.refusesState("a copy's turns are gone", bench, () -> bench.copy(1, 0, true));
        bench.read(1);
        Check.same("read once", bench.copy(1, 0, true), 1);
    }

    /** "5 PLAIN copies ever, 6 RAW ones": a refused one is none. */
    private static void refusedCopiesDoNotCount() {
        FluxBench bench = Patterns.read(0, "1");
        bench.track(0);
        Check.refusesState("no turn", bench, () -> bench.copy(1, 0, true));
        Check.refusesArgument("the same", bench, () -> bench.copy(0, 0, false));
        Check.same("plain", bench.many(5), 0);
        Check.same("raw", bench.many(6), 0);
        bench.copy(0, 1, true);
        bench.copy(0, 1, false);
        bench.copy(0, 1, true);
        Check.same("plain", bench.many(5), 1);
        Check.same("raw", bench.many(6), 2);
    }

    /** "(0 without TURNS)": of a new TRACK, of one that is written, and of one that was copied into. */
    private static void plainLongIs0WithoutTurns() {
        FluxBench bench = Benches.withTrack(2);
        bench.track(2);
        Check.same("a new one", bench.plainLong(0), 0);
        bench.sector(0, 1, 1, 1, true);
        Check.same("one that is written", bench.plainLong(0), 0);
        bench.read(0);
        Check.same("one that is read", bench.plainLong(0), 51);
        bench.copy(0, 1, false);
        Check.same("one that was copied into", bench.plainLong(1), 0);
        bench.read(1);
        Check.same("and is read", bench.plainLong(1), 51);
        bench.dirt(0, 0, 0);
        Benches.readTimes(bench, 0, 2);
        Check.same("one whose mark is lost", bench.plainLong(0), 0);
    }

    private static int lostOf(String cells) {
        return Patterns.read(0, cells).wouldLose(0);
    }

    /** "those that the TRACK has now, and the copy would not have then": none, and each of them alone. */
    private static void eachGuardMayBeLost() {
        String good = Cells.MARK + Cells.paired(1, 1, 1, 3);
        String bad = Cells.MARK + Cells.paired(2, 1, 1, 3);
        Check.same("nothing to lose", lostOf(good), 0);
        Check.same("a bad one", lostOf(good + bad), 1);
        Check.same("twins", lostOf(good + good), 2);
        Check.same("a stray one", lostOf(good + Cells.MARK), 8);
        Check.same("a cut one", lostOf(good + Cells.MARK + Cells.paired(1, 1)), 16);
        Check.same("the length", lostOf(good + "1".repeat(301 - good.length())), 32);
        FluxBench unsure = Patterns.read(0, good + "1");
        unsure.dirt(0, good.length(), good.length());
        unsure.read(0);
        Check.same("what is unsure", unsure.wouldLose(0), 4);
    }

    /** "(those that the TRACK has now, ..)": without TURNS it has none, and from an empty copy all are lost. */
    private static void withoutTurnsNothingIsLost() {
        FluxBench bench = Benches.withTrack(2);
        Check.same("a new one", bench.wouldLose(0), 0);
        bench.sector(0, 1, 1, 1, false);
        Check.same("one that is not read", bench.wouldLose(0), 0);
        bench.read(0);
        Check.same("an empty copy has no bad one", bench.wouldLose(0), 1);
        Check.same("an empty copy is not long", lostOf("1".repeat(400)), 32);
    }

    /** "32 the VOTE has more than 300 CELLS": a copy of 300 loses it, one of 306 does not; nor what was not there. */
    private static void aLongCopyKeepsItsLength() {
        FluxBench loses = Benches.withTrack(0);
        for (int number = 0; number < 4; number++) {
            loses.sector(0, number, 1, 1, true);
        }
        loses.write(0, 255);
        loses.read(0);
        Check.same("the copy has 300", loses.plainLong(0), 300);
        Check.same("which are not long", loses.wouldLose(0), 32);
        FluxBench keeps = Benches.withTrack(2);
        for (int number = 0; number < 6; number++) {
            keeps.sector(0, number, 1, 1, true);
        }
        keeps.read(0);
        Check.same("the copy has 306", keeps.plainLong(0), 306);
        Check.same("which are long", keeps.wouldLose(0), 0);
        FluxBench gains = shortSectors(1, 1, 1, 1, 1, 1);
        Check.same("300 are not long", gains.ofTrack(0, 9), 0);
        Check.same("the copy has 306", gains.plainLong(0), 306);
        Check.same("what it gains is not lost", gains.wouldLose(0), 0);
    }

    /** "what would be (nothing is changed)": neither the DRAW nor READS nor copies, nor what comes next. */
    private static void askingWhatWouldBeChangesNothing() {
        FluxBench asked = overSpoiled(2, 0);
        FluxBench other = overSpoiled(2, 0);
        for (int i = 0; i < 5; i++) {
            for (int track = 0; track < 2; track++) {
                asked.plainLong(track);
                asked.wouldLose(track);
                asked.goodBy(track, i % 3);
                asked.digest();
            }
        }
        Check.same("the digest", asked.digest(), other.digest());
        Check.same("what is read then", asked.read(1), other.read(1));
        Check.same("what is copied then", asked.copy(1, 0, true), other.copy(1, 0, true));
        Check.same("the digest then", asked.digest(), other.digest());
    }

    public static void main(String[] args) {
        theRowAndTheTurnsAreGone();
        theCopyIsSteadyAndClean();
        theCodeIsTheFirstOnes();
        theFirstOneStays();
        theFirstGoodOneOfEachNumberIsWritten();
        eachNumberIsWrittenOnce();
        withoutGoodOnesThePlainCopyIsEmpty();
        theWidthIs8();
        whatDoesNotFitWholeIsNotWritten();
        dataOfAnyBytesIsWrittenAnew();
        clocksAreWrittenAnew();
        aRawCopyIsAsLongAsTheVote();
        aRawCopyOfAnEmptyVoteIsEmpty();
        aRawCopyMayEndWithZeros();
        aRawCopyIsOfTheVote();
        bothTracksHaveToBe();
        bothAreNotTheSame();
        theFirstOneHasToHaveATurn();
        refusedCopiesDoNotCount();
        plainLongIs0WithoutTurns();
        eachGuardMayBeLost();
        withoutTurnsNothingIsLost();
        aLongCopyKeepsItsLength();
        askingWhatWouldBeChangesNothing();
        Check.end("CopyEdgesTest");
    }
}
