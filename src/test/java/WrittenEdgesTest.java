/** The document's part 1 and promises 1 to 9: each sentence that names a boundary has a method here. */
final class WrittenEdgesTest {
    /** "An object is used for at most 512 calls after it has been made" */
    private static void the512thCallIsAnsweredToo() {
        FluxBench bench = Benches.withTrack(0);
        bench.write(0, 255);
        bench.weak(0, 15, true);
        Benches.readTimes(bench, 0, 508);
        Check.same("512 calls: the READS ever", bench.many(3), 508);
        FluxBench other = Benches.withTrack(0);
        other.write(0, 255);
        other.weak(0, 15, true);
        Benches.readTimes(other, 0, 508);
        Check.same("512 calls: the DRAW after 31 rounds of sixteen and 12 more", other.many(2), 12);
    }

    /** "Whole numbers are divided rounding down", "data / 256 modulo 256, and so on": just around 256, and its powers. */
    private static void dataIsDividedRoundingDown() {
        int[] data = {0, 255, 256, 65535, 65536, 16777215, 16777216, Integer.MAX_VALUE};
        int[][] due = {
            {0, 0, 0, 0}, {255, 0, 0, 0}, {0, 1, 0, 0}, {255, 255, 0, 0},
            {0, 0, 1, 0}, {255, 255, 255, 0}, {0, 0, 0, 1}, {255, 255, 255, 127},
        };
        for (int i = 0; i < data.length; i++) {
            FluxBench bench = Benches.withTrack(0);
            bench.sector(0, 0, 4, data[i], true);
            int sum = (4 + due[i][0] + due[i][1] + due[i][2] + due[i][3]) % 256;
            String cells = Cells.MARK + Cells.paired(0, 4, due[i][0], due[i][1], due[i][2], due[i][3], sum) + "1";
            Check.sameText("data " + data[i], Benches.rowFrom(bench, 0, 0), cells);
        }
    }

    /** "(16 CELLS) .. (10 CELLS)": BYTE / 16 and BYTE modulo 16 just around 16. */
    private static void bytesOfCode2AreDividedRoundingDown() {
        int[] values = {0, 15, 16, 17, 31, 32, 239, 240, 255};
        for (int value : values) {
            FluxBench bench = Benches.withTrack(2);
            Check.same("ten cells of " + value, bench.write(0, value), 10);
            Check.sameText("the cells of " + value, Benches.rowFrom(bench, 0, 0), Cells.grouped(value));
        }
    }

    /** "TRACKS: at most 4, numbered from 0", "IllegalStateException if there are 4" */
    private static void fourTracksAreTheMost() {
        for (int code = 0; code <= 2; code++) {
            int any = code;
            FluxBench bench = new FluxBench();
            for (int number = 0; number < 4; number++) {
                Check.same("tracks ahead", bench.many(0), number);
                Check.same("a track's number", bench.track(code), number);
            }
            Check.refusesState("a fifth track", bench, () -> bench.track(any));
            Check.same("four stay", bench.many(0), 4);
        }
    }

    /** "IllegalArgumentException if code is not 0 to 2" */
    private static void codesAre0To2() {
        FluxBench bench = new FluxBench();
        int[] wrong = {-1, 3, Integer.MIN_VALUE, Integer.MAX_VALUE};
        for (int code : wrong) {
            Check.refusesArgument("code " + code, bench, () -> bench.track(code));
        }
        Check.same("no track came of it", bench.many(0), 0);
        Check.same("code 0", bench.track(0), 0);
        Check.same("code 2", bench.track(2), 1);
    }

    /** "the SPEED (8 at first; ..)": the WIDTH of each way to write, ahead of any speed(). */
    private static void theSpeedIs8AtFirst() {
        FluxBench bench = Benches.withTrack(1);
        Check.same("the speed of a new bench", bench.many(1), 8);
        Check.same("a byte of width 8", bench.write(0, 0) * 8, bench.ofTrack(0, 11));
        Check.same("a mark of width 8", bench.mark(0) * 8, bench.ofTrack(0, 11));
        Check.same("a sector of width 8", bench.sector(0, 1, 1, 1, true) * 8, bench.ofTrack(0, 11));
        Check.same("8 was the one before", bench.speed(6), 8);
    }

    /** "(8 at first; 6 to 11)", "IllegalArgumentException if speed is not 6 to 11" */
    private static void speedsAre6To11() {
        FluxBench bench = Benches.withTrack(2);
        int before = 8;
        for (int speed = 6; speed <= 11; speed++) {
            Check.same("the speed before", bench.speed(speed), before);
            before = speed;
            int row = bench.mark(0);
            Check.same("the width of speed " + speed, bench.ofCell(0, row - 1, 1), speed);
        }
        int[] wrong = {5, 12, 0, -8, Integer.MIN_VALUE, Integer.MAX_VALUE};
        for (int speed : wrong) {
            Check.refusesArgument("speed " + speed, bench, () -> bench.speed(speed));
            Check.same("the speed stays", bench.many(1), 11);
        }
    }

    /** "A BYTE (0 to 255)", "IllegalArgumentException if value is not 0 to 255" */
    private static void bytesAre0To255() {
        for (int code = 0; code <= 2; code++) {
            FluxBench bench = Benches.withTrack(code);
            int[] wrong = {-1, 256, Integer.MIN_VALUE, Integer.MAX_VALUE};
            for (int value : wrong) {
                Check.refusesArgument("a byte of " + value, bench, () -> bench.write(0, value));
            }
            Check.same("nothing was written", bench.ofTrack(0, 1), 0);
            bench.write(0, 255);
            bench.write(0, 0);
            Check.sameText("255 and 0 by code " + code, Benches.rowFrom(bench, 0, 0), Cells.byCode(code, 255, 0));
        }
    }

    /** "(the one ahead is 0 in an empty row, ..)" */
    private static void theBitAheadIs0InAnEmptyRow() {
        FluxBench bench = Benches.withTrack(1);
        bench.track(1);
        bench.write(0, 1);
        bench.write(1, 127);
        Check.sameText("another track's BITS do not count", Benches.rowFrom(bench, 1, 0), Cells.clocked(0, 127));
    }

    /** "(.. behind a MARK, ..)" */
    private static void theBitAheadIs0BehindAMark() {
        FluxBench bench = Benches.withTrack(1);
        bench.write(0, 1);
        bench.mark(0);
        bench.write(0, 127);
        Check.sameText("behind a mark", Benches.rowFrom(bench, 0, 26), Cells.clocked(0, 127));
        bench.write(0, 1);
        bench.sector(0, 127, 1, 0, true);
        Check.sameText("behind a sector's own mark", Benches.rowFrom(bench, 0, 68), Cells.clocked(0, 127, 1, 0, 128) + "1");
    }

    /** "(.. and behind a copy that is RAW)": though the row ends with a BIT that is 1. */
    private static void theBitAheadIs0BehindARawCopy() {
        FluxBench bench = Benches.withTrack(1);
        bench.track(1);
        bench.write(0, 255);
        bench.write(1, 255);
        bench.read(0);
        bench.copy(0, 1, true);
        Check.same("the copy ends with a 1", bench.ofCell(1, 15, 0), 1);
        bench.write(1, 0);
        Check.sameText("behind the copy", Benches.rowFrom(bench, 1, 16), Cells.clocked(0, 0));
        bench.write(1, 1);
        bench.dirt(0, 0, 15);
        Benches.readTimes(bench, 0, 3);
        Check.same("a raw copy of an empty vote", bench.copy(0, 1, true), 0);
        bench.write(1, 0);
        Check.sameText("behind the empty copy", Benches.rowFrom(bench, 1, 0), Cells.clocked(0, 0));
    }

    /** "the one that was written ahead of it in this TRACK as such a BIT": from BYTE to BYTE. */
    private static void theBitAheadIsTheLastOfTheByteAhead() {
        FluxBench bench = Benches.withTrack(1);
        int[] values = {254, 0, 1, 0, 128, 127, 129, 1, 255};
        for (int value : values) {
            bench.write(0, value);
        }
        Check.sameText("byte behind byte", Benches.rowFrom(bench, 0, 0), Cells.clocked(0, values));
    }

    /** ".. as such a BIT": the last CELL of a SECTOR is none, nor what comes of a WEAK or DIRTY one. */
    private static void onlyBitsOfBytesAreSuchBits() {
        FluxBench even = Benches.withTrack(1);
        even.sector(0, 1, 1, 0, true);
        Check.same("a sector ends with a 1", even.ofCell(0, 74, 0), 1);
        even.write(0, 0);
        Check.sameText("behind a SUM of 2", Benches.rowFrom(even, 0, 75), Cells.clocked(0, 0));
        FluxBench odd = Benches.withTrack(1);
        odd.sector(0, 1, 1, 1, true);
        odd.write(0, 0);
        Check.sameText("behind a SUM of 3", Benches.rowFrom(odd, 0, 75), Cells.clocked(1, 0));
        FluxBench dirty = Benches.withTrack(1);
        dirty.write(0, 1);
        dirty.dirt(0, 15, 15);
        dirty.weak(0, 15, true);
        dirty.write(0, 0);
        Check.sameText("behind a 1 that is weak and dirty", Benches.rowFrom(dirty, 0, 16), Cells.clocked(1, 0));
    }

    /** A refused BYTE, MARK or SECTOR leaves the BIT ahead: it is read off the next BYTE that fits. */
    private static void aRefusedCallLeavesTheBitAhead() {
        FluxBench bench = Benches.withTrack(1);
        for (int i = 0; i < 24; i++) {
            bench.write(0, 1);
        }
        Check.refusesState("a sector of 75", bench, () -> bench.sector(0, 0, 1, 0, true));
        Check.refusesArgument("no byte", bench, () -> bench.write(0, 256));
        Check.refusesArgument("no sector", bench, () -> bench.sector(0, 256, 1, 0, true));
        Check.same("16 fit", bench.write(0, 0), 400);
        Check.sameText("behind the refused ones", Benches.rowFrom(bench, 0, 384), Cells.clocked(1, 0));
    }

    /** "for v of 0 to 15 the five binary digits .. of 10, 11, .. 21": each v in each half. */
    private static void eachHalfHasItsGroup() {
        for (int v = 0; v <= 15; v++) {
            FluxBench bench = Benches.withTrack(2);
            bench.write(0, 16 * v);
            bench.write(0, v);
            String due = Cells.group(v) + Cells.group(0) + Cells.group(0) + Cells.group(v);
            Check.sameText("v " + v, Benches.rowFrom(bench, 0, 0), due);
        }
    }

    /** "A MARK is 10 CELLS: 1, 0, 0, 0, 0, 1, 0, 0, 0, 1.": by every CODE. */
    private static void aMarkIsTheSameByEveryCode() {
        for (int code = 0; code <= 2; code++) {
            FluxBench bench = Benches.withTrack(code);
            bench.write(0, 255);
            int row = bench.mark(0);
            Check.sameText("a mark by code " + code, Benches.rowFrom(bench, 0, row - 10), Cells.MARK);
        }
    }

    /** "COUNT (1 to 4)", "IllegalArgumentException if .. count not 1 to 4" */
    private static void countsAre1To4() {
        for (int code = 0; code <= 2; code++) {
            FluxBench bench = Benches.withTrack(code);
            int[] wrong = {0, 5, -1, Integer.MIN_VALUE, Integer.MAX_VALUE};
            for (int count : wrong) {
                Check.refusesArgument("a count of " + count, bench, () -> bench.sector(0, 1, count, 0, true));
            }
            Check.same("count 1", bench.sector(0, 1, 1, 0, true), Cells.ofSector(code, 1));
            Check.same("count 4", bench.sector(0, 1, 4, 0, true), Cells.ofSector(code, 1) + Cells.ofSector(code, 4));
        }
    }

    /** "IllegalArgumentException if number is not 0 to 255, ..": 0 and 255 are NUMBERS. */
    private static void numbersAre0To255() {
        FluxBench bench = Benches.withTrack(2);
        int[] wrong = {-1, 256, Integer.MIN_VALUE, Integer.MAX_VALUE};
        for (int number : wrong) {
            Check.refusesArgument("number " + number, bench, () -> bench.sector(0, number, 1, 0, true));
        }
        bench.sector(0, 0, 1, 0, true);
        bench.sector(0, 255, 1, 0, true);
        String due = Cells.MARK + Cells.grouped(0, 1, 0, 1) + "1" + Cells.MARK + Cells.grouped(255, 1, 0, 0) + "1";
        Check.sameText("numbers 0 and 255", Benches.rowFrom(bench, 0, 0), due);
    }

    /** "IllegalArgumentException if .. data below 0": 0 and the greatest are right. */
    private static void dataIsNotBelow0() {
        FluxBench bench = Benches.withTrack(2);
        Check.refusesArgument("data -1", bench, () -> bench.sector(0, 1, 1, -1, true));
        Check.refusesArgument("data, the least", bench, () -> bench.sector(0, 1, 1, Integer.MIN_VALUE, true));
        Check.same("data 0", bench.sector(0, 1, 1, 0, true), 51);
        Check.same("data, the greatest", bench.sector(0, 1, 4, Integer.MAX_VALUE, true), 132);
    }

    private static void sumIs(int number, int data, boolean isRight, int due) {
        FluxBench bench = Benches.withTrack(2);
        bench.sector(0, number, 1, data, isRight);
        Check.sameText("the SUM of " + number + ", 1, " + data, Benches.rowFrom(bench, 0, 40), Cells.grouped(due) + "1");
    }

    /** "SUM: NUMBER, COUNT and all DATA together, modulo 256" */
    private static void sumsWrapAt256() {
        sumIs(200, 54, true, 255);
        sumIs(200, 55, true, 0);
        sumIs(200, 56, true, 1);
        sumIs(255, 255, true, 255);
        sumIs(0, 0, true, 1);
    }

    /** "(if it is written wrong on purpose: 1 more, modulo 256)" */
    private static void wrongSumsWrapAt256() {
        sumIs(200, 53, false, 255);
        sumIs(200, 54, false, 0);
        sumIs(200, 55, false, 1);
    }

    /** "and at last one CELL with a 1": by every CODE and COUNT. */
    private static void aSectorEndsWithA1() {
        for (int code = 0; code <= 2; code++) {
            for (int count = 1; count <= 4; count++) {
                FluxBench bench = Benches.withTrack(code);
                int row = bench.sector(0, 0, count, 0, true);
                Check.same("the cells of a sector", row, Cells.ofSector(code, count));
                Check.same("its last cell", bench.ofCell(0, row - 1, 0), 1);
            }
        }
    }

    /** "a row of at most 400 CELLS", "IllegalStateException if there would be more than 400": write(). */
    private static void aByteFillsARowTo400() {
        for (int code = 0; code <= 2; code++) {
            FluxBench fits = Patterns.rowOf(code, 400 - Cells.ofByte(code));
            Check.same("a byte to 400", fits.write(1, 255), 400);
            Check.refusesState("a byte beyond 400", fits, () -> fits.write(1, 0));
            FluxBench less = Patterns.rowOf(code, 401 - Cells.ofByte(code));
            Check.refusesState("a byte to 401", less, () -> less.write(1, 255));
        }
    }

    /** "IllegalStateException if there would be more than 400": mark(). */
    private static void aMarkFillsARowTo400() {
        for (int code = 0; code <= 2; code++) {
            FluxBench fits = Patterns.rowOf(code, 390);
            Check.same("a mark to 400", fits.mark(1), 400);
            Check.refusesState("a mark beyond 400", fits, () -> fits.mark(1));
            FluxBench less = Patterns.rowOf(code, 391);
            Check.refusesState("a mark to 401", less, () -> less.mark(1));
        }
    }

    /** "IllegalStateException if there would be more than 400": sector(). */
    private static void aSectorFillsARowTo400() {
        for (int code = 0; code <= 2; code++) {
            for (int count = 1; count <= 4; count++) {
                int bytes = count;
                int cells = Cells.ofSector(code, count);
                FluxBench fits = Patterns.rowOf(code, 400 - cells);
                Check.same("a sector to 400", fits.sector(1, 1, count, 1, true), 400);
                Check.refusesState("a sector beyond 400", fits, () -> fits.sector(1, 1, bytes, 1, true));
                FluxBench less = Patterns.rowOf(code, 401 - cells);
                Check.refusesState("a sector to 401", less, () -> less.sector(1, 1, bytes, 1, true));
            }
        }
    }

    /** "What is written is put behind the last CELL": a longer thing that is refused hinders no shorter one. */
    private static void whatIsShorterMayStillFit() {
        FluxBench bench = Patterns.rowOf(0, 390);
        Check.refusesState("a byte to 406", bench, () -> bench.write(1, 0));
        Check.refusesState("a sector to 465", bench, () -> bench.sector(1, 1, 1, 1, true));
        Check.same("a mark to 400", bench.mark(1), 400);
    }

    /** "IndexOutOfBoundsException if there is no such TRACK, or place in its row": weak(). */
    private static void weakIsToldFromTheFirstPlaceToTheLast() {
        FluxBench bench = Benches.withTrack(2);
        Check.refusesPlace("an empty row has no place 0", bench, () -> bench.weak(0, 0, true));
        bench.mark(0);
        int[] wrong = {-1, 10, 400, Integer.MIN_VALUE, Integer.MAX_VALUE};
        for (int place : wrong) {
            Check.refusesPlace("weak at " + place, bench, () -> bench.weak(0, place, true));
        }
        int[] ends = {0, 9};
        for (int place : ends) {
            Check.same("it was not", bench.weak(0, place, true), false);
            Check.same("it was", bench.weak(0, place, true), true);
            Check.same("it was still", bench.weak(0, place, false), true);
            Check.same("it was no more", bench.weak(0, place, false), false);
        }
        FluxBench full = Patterns.rowOf(0, 400);
        Check.same("the last of 400", full.weak(1, 399, true), false);
        Check.same("the last of 400 is weak", full.ofCell(1, 399, 2), 1);
        Check.refusesPlace("behind the last of 400", full, () -> full.weak(1, 400, true));
    }

    /** "IndexOutOfBoundsException if .. from or to is no place in its row": dirt(). */
    private static void dirtIsToldFromTheFirstPlaceToTheLast() {
        FluxBench bench = Benches.withTrack(2);
        Check.refusesPlace("an empty row has no place 0", bench, () -> bench.dirt(0, 0, 0));
        bench.mark(0);
        int[] wrong = {-1, 10, 400, Integer.MIN_VALUE, Integer.MAX_VALUE};
        for (int place : wrong) {
            Check.refusesPlace("dirt from " + place, bench, () -> bench.dirt(0, place, 9));
            Check.refusesPlace("dirt to " + place, bench, () -> bench.dirt(0, 0, place));
        }
        Check.same("the first place alone", bench.dirt(0, 0, 0), 1);
        Check.same("the last place alone", bench.dirt(0, 9, 9), 2);
        Check.same("from the first to the last", bench.dirt(0, 0, 9), 10);
        FluxBench full = Patterns.rowOf(0, 400);
        Check.same("all of 400", full.dirt(1, 0, 399), 400);
    }

    /** "IllegalArgumentException if to is less than from": one less, and just the same. */
    private static void dirtEndsNotAheadOfItsBegin() {
        FluxBench bench = Benches.withTrack(2);
        bench.mark(0);
        Check.refusesArgument("to one less", bench, () -> bench.dirt(0, 5, 4));
        Check.refusesArgument("from the last to the first", bench, () -> bench.dirt(0, 9, 0));
        Check.same("nothing is dirty", bench.dirt(0, 5, 5), 1);
    }

    /** "CELLS get DIRTY: those that are CLEAN": neither DIRTY ones anew, nor SHED ones. */
    private static void onlyCleanCellsGetDirty() {
        FluxBench bench = Benches.withTrack(2);
        bench.mark(0);
        bench.dirt(0, 3, 4);
        bench.read(0);
        Check.same("two were dirty already", bench.dirt(0, 2, 5), 4);
        bench.read(0);
        Check.same("one of the first is shed", bench.ofCell(0, 3, 3), 2);
        Check.same("the other of the first is shed", bench.ofCell(0, 4, 3), 2);
        Check.same("one of the later is dirty", bench.ofCell(0, 2, 3), 1);
        Check.same("shed ones are not dirty ones", bench.dirt(0, 0, 9), 8);
        Check.same("nor do they get so", bench.ofCell(0, 3, 3), 2);
    }

    /** "(how often they are READ as DIRTY counts from 0 again)" */
    private static void dirtCountsFrom0Again() {
        FluxBench bench = Benches.withTrack(2);
        bench.mark(0);
        bench.dirt(0, 5, 5);
        bench.read(0);
        bench.clean(0);
        bench.dirt(0, 5, 5);
        bench.read(0);
        Check.same("read once since", bench.ofCell(0, 5, 3), 1);
        bench.read(0);
        Check.same("read twice since", bench.ofCell(0, 5, 3), 2);
    }

    /** "CELLS that are DIRTY are CLEAN again": not those that are SHED. */
    private static void cleanLeavesWhatIsShed() {
        FluxBench bench = Benches.withTrack(2);
        Check.same("an empty row", bench.clean(0), 0);
        bench.mark(0);
        Check.same("a clean row", bench.clean(0), 0);
        bench.dirt(0, 0, 8);
        Check.same("dirty ones alone", bench.clean(0), 0);
        Check.same("the first place is clean", bench.ofCell(0, 0, 3), 0);
        Check.same("the last of them is clean", bench.ofCell(0, 8, 3), 0);
        bench.dirt(0, 0, 0);
        Benches.readTimes(bench, 0, 2);
        bench.dirt(0, 9, 9);
        Check.same("one shed, one dirty", bench.clean(0), 1);
        Check.same("the shed one stays", bench.ofCell(0, 0, 3), 2);
        Check.same("the dirty one is clean", bench.ofCell(0, 9, 3), 0);
        bench.dirt(0, 0, 9);
        Benches.readTimes(bench, 0, 2);
        Check.same("all are shed", bench.clean(0), 10);
    }

    public static void main(String[] args) {
        the512thCallIsAnsweredToo();
        dataIsDividedRoundingDown();
        bytesOfCode2AreDividedRoundingDown();
        fourTracksAreTheMost();
        codesAre0To2();
        theSpeedIs8AtFirst();
        speedsAre6To11();
        bytesAre0To255();
        theBitAheadIs0InAnEmptyRow();
        theBitAheadIs0BehindAMark();
        theBitAheadIs0BehindARawCopy();
        theBitAheadIsTheLastOfTheByteAhead();
        onlyBitsOfBytesAreSuchBits();
        aRefusedCallLeavesTheBitAhead();
        eachHalfHasItsGroup();
        aMarkIsTheSameByEveryCode();
        countsAre1To4();
        numbersAre0To255();
        dataIsNotBelow0();
        sumsWrapAt256();
        wrongSumsWrapAt256();
        aSectorEndsWithA1();
        aByteFillsARowTo400();
        aMarkFillsARowTo400();
        aSectorFillsARowTo400();
        whatIsShorterMayStillFit();
        weakIsToldFromTheFirstPlaceToTheLast();
        dirtIsToldFromTheFirstPlaceToTheLast();
        dirtEndsNotAheadOfItsBegin();
        onlyCleanCellsGetDirty();
        dirtCountsFrom0Again();
        cleanLeavesWhatIsShed();
        Check.end("WrittenEdgesTest");
    }
}
