/** The document's part 3, and promises 13, 17, 18 and 23: each sentence that names a boundary has a method here. */
final class SectorEdgesTest {
    /** What one finds in a VOTE of CODE 0: SECTORS, GOOD ones, STRAY ones, and whether one is CUT. */
    private static void finds(String what, String cells, String due) {
        Check.sameText(what, Benches.findsOf(Patterns.read(0, cells)), due);
    }

    /** A SECTOR by CODE 0 or 2 whose SUM is right, without the CELL that sector() puts behind it. */
    private static String sector(int code, int number, int... data) {
        int[] all = new int[data.length + 3];
        all[0] = number;
        all[1] = data.length;
        int sum = number + data.length;
        for (int i = 0; i < data.length; i++) {
            all[2 + i] = data[i];
            sum += data[i];
        }
        all[all.length - 1] = sum % 256;
        return Cells.MARK + Cells.byCode(code, all);
    }

    /** "one looks from the place 0 on for a MARK": at the places 0 and 1, and at the last one where it fits. */
    private static void aMarkIsLookedForFromPlace0ToTheEnd() {
        finds("at the place 0", Cells.MARK, "0 0 1 0");
        finds("at the place 1", "1" + Cells.MARK, "0 0 1 0");
        finds("at the last of 400", "0".repeat(390) + Cells.MARK, "0 0 1 0");
        finds("in no row", "1", "0 0 0 0");
    }

    /** "a MARK (its ten CELLS)": with one CELL less at either end, or one that is another one, it is none. */
    private static void aMarkIsAllOfItsTenCells() {
        finds("without its first cell", Cells.MARK.substring(1), "0 0 0 0");
        finds("without its last cells", Cells.MARK.substring(0, 6), "0 0 0 0");
        for (int place = 0; place < 10; place++) {
            char other = Cells.MARK.charAt(place) == '1' ? '0' : '1';
            String cells = Cells.MARK.substring(0, place) + other + Cells.MARK.substring(place + 1);
            finds("with another cell at " + place, cells + "1", "0 0 0 0");
        }
    }

    /** "one goes on looking just behind the MARK": not at its own last CELL, but right behind it. */
    private static void oneGoesOnJustBehindAStrayMark() {
        finds("a mark that begins with the last cell of one", Cells.MARK + Cells.MARK.substring(1), "0 0 1 0");
        finds("a mark right behind one", Cells.MARK + Cells.MARK, "0 0 2 0");
        finds("a mark amid NUMBER and COUNT", Cells.MARK + "1" + Cells.MARK, "0 0 2 0");
        finds("a sector right behind a mark", Cells.MARK + sector(0, 1, 0) + "1", "1 1 1 0");
        FluxBench bench = Patterns.read(0, Cells.MARK + "0" + sector(0, 1, 0) + "1");
        Check.sameText("a sector amid NUMBER and COUNT", Benches.findsOf(bench), "1 1 1 0");
        Check.sameText("that sector", Benches.sectorOf(bench, 0, 0), "11 1 1 1 2 0 -1 -1 -1");
    }

    /** The same behind each other kind of STRAY ones: NUMBER is NONE, or COUNT is not 1 to 4. */
    private static void itsLastCellBeginsNoMarkBehindAnyStrayOne() {
        String overlap = Cells.MARK + Cells.MARK.substring(1);
        finds("COUNT is 0", overlap + "0".repeat(23) + "1", "0 0 1 0");
        finds("COUNT is 5", overlap + "0".repeat(7) + Cells.paired(5) + "1", "0 0 1 0");
        String groups = overlap + Cells.paired(0);
        Check.sameText("NUMBER is NONE", Benches.findsOf(Patterns.read(2, groups.substring(0, 33) + "1")), "0 0 1 0");
    }

    /** "STRAY, if the row ends ahead of the end of NUMBER and COUNT": at it, one CELL ahead, and at the MARK. */
    private static void theEndOfNumberAndCount() {
        for (int code = 0; code <= 2; code += 2) {
            String whole = Cells.MARK + Cells.byCode(code, 255, 3);
            Check.sameText("it is whole", Benches.findsOf(Patterns.read(code, whole)), "0 0 0 1");
            String even = Cells.MARK + Cells.byCode(code, 1, 4);
            String less = even.substring(0, even.length() - 1);
            Check.sameText("one cell less", Benches.findsOf(Patterns.read(code, less)), "0 0 1 0");
            Check.sameText("a mark alone", Benches.findsOf(Patterns.read(code, Cells.MARK)), "0 0 1 0");
        }
    }

    /** "one of both is NONE": NUMBER, COUNT, and each half of both. */
    private static void aNumberOrCountThatIsNoneIsStray() {
        for (int half = 0; half < 4; half++) {
            StringBuilder cells = new StringBuilder(sector(2, 17, 17) + "1");
            cells.replace(10 + 5 * half, 15 + 5 * half, "00001");
            Check.sameText("half " + half + " is none", Benches.findsOf(Patterns.read(2, cells.toString())), "0 0 1 0");
        }
    }

    /** "or COUNT is not 1 to 4": by each CODE. */
    private static void aCountThatIsNot1To4IsStray() {
        int[] counts = {0, 1, 2, 3, 4, 5, 6, 127, 128, 255};
        for (int code = 0; code <= 2; code++) {
            for (int count : counts) {
                boolean isRight = count >= 1 && count <= 4;
                FluxBench bench = Benches.withTrack(code);
                bench.mark(0);
                bench.write(0, 9);
                bench.write(0, count);
                for (int i = 0; i < (isRight ? count : 4); i++) {
                    bench.write(0, 0);
                }
                bench.write(0, (9 + count) % 256);
                bench.mark(0);
                bench.read(0);
                Check.sameText("count " + count, Benches.findsOf(bench), isRight ? "1 1 1 0" : "0 0 2 0");
            }
        }
    }

    /** "CUT, if the row ends ahead of the end of SUM": at it, one CELL ahead, and just behind the head. */
    private static void theEndOfSum() {
        for (int code = 0; code <= 2; code += 2) {
            for (int count = 1; count <= 4; count++) {
                int[] data = new int[count];
                data[0] = 4 - count;
                String whole = sector(code, 13, data);
                Check.sameText("the SUM is whole", Benches.findsOf(Patterns.read(code, whole)), "1 1 0 0");
                data[0] = 9 - count;
                String even = sector(code, 13, data);
                String less = even.substring(0, even.length() - 1);
                Check.sameText("one cell less", Benches.findsOf(Patterns.read(code, lastAs1(less))), "0 0 0 1");
                String head = Cells.MARK + Cells.byCode(code, 13, count) + "1";
                Check.sameText("one cell more than the head", Benches.findsOf(Patterns.read(code, head)), "0 0 0 1");
            }
        }
    }

    private static String lastAs1(String cells) {
        return cells.substring(0, cells.length() - 1) + "1";
    }

    /** "CUT, ..: nothing more is found": no MARK behind it, while what was ahead stays. */
    private static void behindACutOneNothingIsFound() {
        String cut = Cells.MARK + Cells.paired(1, 4);
        finds("a mark in a cut one", cut + Cells.MARK, "0 0 0 1");
        finds("two marks in a cut one", cut + Cells.MARK + Cells.MARK, "0 0 0 1");
        finds("a whole sector in a cut one", cut + sector(0, 1, 0) + "1", "0 0 0 1");
        finds("a sector ahead of a cut one", sector(0, 1, 0) + cut + "1", "1 1 0 1");
        finds("a stray one ahead of a cut one", Cells.MARK + "1" + cut + "1", "0 0 1 1");
    }

    /** "one goes on looking behind its SUM": no MARK in a SECTOR is found, one right behind it is. */
    private static void oneGoesOnBehindTheSum() {
        String withMark = Cells.MARK + Cells.paired(1, 2) + Cells.MARK + "0".repeat(22);
        finds("a mark in the DATA of a good one", withMark + Cells.paired(1 + 2 + 40) + "1", "1 1 0 0");
        finds("a mark in the DATA of a bad one", withMark + Cells.paired(1 + 2 + 41) + "1", "1 0 0 0");
        finds("a sector right behind one", sector(0, 1, 0) + sector(0, 2, 0) + "1", "2 2 0 0");
        finds("a bad one right behind a bad one", bad(1) + bad(2) + "1", "2 0 0 0");
        finds("a stray mark right behind a sector", sector(0, 1, 0) + Cells.MARK, "1 1 1 0");
        String overlap = Cells.MARK + Cells.paired(1, 1, 129, 131);
        finds("a mark that begins with the last cell of a SUM", overlap + Cells.MARK.substring(1), "1 1 0 0");
    }

    private static String bad(int number) {
        return Cells.MARK + Cells.paired(number, 1, 0, number);
    }

    /** "the second, fourth and so on of 16 CELLS are its BITS (CLOCKS do not matter)" */
    private static void clocksDoNotMatter() {
        String bytes = Cells.paired(5, 1, 170, 176);
        StringBuilder without = new StringBuilder(bytes);
        for (int place = 0; place < bytes.length(); place += 2) {
            without.setCharAt(place, '0');
        }
        finds("with all clocks", Cells.MARK + bytes + "1", "1 1 0 0");
        FluxBench bench = Patterns.read(0, Cells.MARK + without + "1");
        Check.sameText("without clocks", Benches.sectorOf(bench, 0, 0), "0 5 1 1 176 170 -1 -1 -1");
        Check.same("by code 1 as well", bench.goodBy(0, 1), 1);
        FluxBench clocked = Benches.withTrack(1);
        clocked.sector(0, 0, 1, 0, true);
        clocked.dirt(0, 10, 10);
        clocked.dirt(0, 44, 44);
        clocked.read(0);
        Check.sameText("by code 1, two clocks less", Benches.sectorOf(clocked, 0, 0), "0 0 1 1 1 0 -1 -1 -1");
    }

    /** "in 2 twice five CELLS, each of which has to be one of the sixteen": all 32 in each half of the DATA. */
    private static void aHalfHasToBeOneOfTheSixteen() {
        for (int five = 0; five < 32; five++) {
            String cells = Integer.toBinaryString(32 + five).substring(1);
            for (int half = 0; half < 2; half++) {
                int value = valueOf(cells, half);
                int sum = value < 0 ? 1 : (1 + 1 + value) % 256;
                String byteCells = half == 0 ? cells + Cells.group(0) : Cells.group(0) + cells;
                String row = Cells.MARK + Cells.grouped(1, 1) + byteCells + Cells.grouped(sum) + "1";
                FluxBench pairs = Patterns.read(0, row);
                Check.same("good by code 2 with " + cells, pairs.goodBy(0, 2), value < 0 ? 0 : 1);
                if (five != 31) {
                    FluxBench groups = Patterns.read(2, row);
                    Check.same("the data " + cells, groups.ofSector(0, 0, 5), value);
                    Check.same("good with " + cells, groups.ofSector(0, 0, 3), value < 0 ? 0 : 1);
                }
            }
        }
    }

    private static int valueOf(String five, int half) {
        for (int v = 0; v < 16; v++) {
            if (Cells.group(v).equals(five)) {
                return half == 0 ? 16 * v : v;
            }
        }
        return -1;
    }

    /** "GOOD, if no BYTE is NONE and SUM is right, otherwise BAD": one NONE in each place, and in SUM. */
    private static void aByteThatIsNoneMakesItBad() {
        for (int which = 0; which < 5; which++) {
            StringBuilder cells = new StringBuilder(sector(2, 17, 16, 17, 18, 19) + "1");
            cells.replace(30 + 10 * which, 35 + 10 * which, "00001");
            FluxBench bench = Patterns.read(2, cells.toString());
            int[] due = {0, 17, 4, 0, 91, 16, 17, 18, 19};
            due[which == 4 ? 4 : 5 + which] = -1;
            for (int what = 0; what < 9; what++) {
                Check.same("byte " + which + " is none, what " + what, bench.ofSector(0, 0, what), due[what]);
            }
            Check.sameText("it is a bad one", Benches.findsOf(bench), "1 0 0 0");
            Check.same("bad alone", bench.ofTrack(0, 9), 1);
        }
    }

    /** "GOOD, if no BYTE is NONE and SUM is right": a NONE is not -1 in the SUM. */
    private static void aNoneIsNoNumber() {
        String head = Cells.MARK + Cells.grouped(17, 1) + "0000100001";
        FluxBench bench = Patterns.read(2, head + Cells.grouped(17) + "1");
        Check.sameText("17, 1 and NONE are not 17", Benches.sectorOf(bench, 0, 0), "0 17 1 0 17 -1 -1 -1 -1");
        String sum255 = Cells.MARK + Cells.grouped(254, 1, 0) + "0000100001" + "1";
        Check.same("a SUM of NONE is not 255", Patterns.read(2, sum255).ofSector(0, 0, 3), 0);
    }

    /** "SUM .. modulo 256", as it is read: just below, at and above 256, and one off. */
    private static void aSumIsReadModulo256() {
        int[] numbers = {253, 254, 255, 255};
        int[] data = {1, 1, 1, 255};
        int[] right = {255, 0, 1, 255};
        for (int i = 0; i < numbers.length; i++) {
            for (int off = -1; off <= 1; off++) {
                int sum = (right[i] + off + 256) % 256;
                String cells = Cells.MARK + Cells.paired(numbers[i], 1, data[i], sum) + "1";
                FluxBench bench = Patterns.read(0, cells);
                Check.same("the SUM " + sum + " as read", bench.ofSector(0, 0, 4), sum);
                Check.same("the SUM " + sum + " is right", bench.ofSector(0, 0, 3), off == 0 ? 1 : 0);
            }
        }
        FluxBench most = Benches.withTrack(2);
        most.mark(0);
        Benches.writeAll(most, 0, 255, 4, 255, 255, 255, 255, 255);
        most.read(0);
        Check.sameText("the greatest", Benches.sectorOf(most, 0, 0), "0 255 4 1 255 255 255 255 255");
    }

    /** "SECTORS (GOOD and BAD) are numbered from 0 in that order.": none, and as many as a row can hold. */
    private static void sectorsAreNumberedFrom0() {
        FluxBench none = Patterns.read(0, Cells.MARK);
        Check.refusesPlace("a stray one is no sector", none, () -> none.ofSector(0, 0, 0));
        FluxBench cut = Patterns.read(0, Cells.MARK + Cells.paired(1, 1));
        Check.refusesPlace("a cut one is no sector", cut, () -> cut.ofSector(0, 0, 0));
        FluxBench bench = Benches.withTrack(2);
        for (int number = 0; number < 7; number++) {
            Benches.shortSector(bench, 0, 10 + number, number);
        }
        Benches.shortSector(bench, 0, 7, 21);
        bench.read(0);
        Check.sameText("eight", Benches.findsOf(bench), "8 8 0 0");
        for (int sector = 0; sector < 8; sector++) {
            Check.same("its place", bench.ofSector(0, sector, 0), 50 * sector);
            Check.same("its number", bench.ofSector(0, sector, 1), sector == 7 ? 7 : 10 + sector);
        }
        int[] wrong = {-1, 8, Integer.MIN_VALUE, Integer.MAX_VALUE};
        for (int sector : wrong) {
            Check.refusesPlace("sector " + sector, bench, () -> bench.ofSector(0, sector, 0));
        }
    }

    /** "its DATA (NONE beyond COUNT; NONE for a BYTE that is NONE)": by each COUNT. */
    private static void dataEndsWithCount() {
        for (int count = 1; count <= 4; count++) {
            FluxBench bench = Benches.withTrack(1);
            bench.sector(0, 1, 4, 0x7F7E7D7C, true);
            bench.sector(0, 1, count, 0x7F7E7D7C, true);
            bench.read(0);
            for (int i = 0; i < 4; i++) {
                Check.same("byte " + i + " of four", bench.ofSector(0, 0, 5 + i), 0x7C + i);
                Check.same("byte " + i + " of " + count, bench.ofSector(0, 1, 5 + i), i < count ? 0x7C + i : -1);
            }
        }
    }

    /** "In the VOTE of a TRACK one looks from the place 0 on": anew with each TURN, and nothing counts twice. */
    private static void oneLooksAnewWithEachTurn() {
        String row = Cells.MARK + sector(0, 1, 0) + bad(2) + Cells.MARK + Cells.paired(1, 1);
        FluxBench bench = Patterns.read(0, row);
        for (int turns = 1; turns <= 5; turns++) {
            Check.sameText("turn " + turns, Benches.findsOf(bench), "2 1 1 1");
            bench.read(0);
        }
        bench.dirt(0, 0, row.length() - 1);
        bench.read(0);
        Check.sameText("in an empty vote", Benches.findsOf(bench), "0 0 0 0");
        Check.refusesPlace("no sector is left", bench, () -> bench.ofSector(0, 0, 0));
    }

    private static int guardsOf(int code, String cells) {
        return Patterns.read(code, cells).ofTrack(0, 9);
    }

    /** "1 some SECTOR is BAD": none, the last one, and the first one. */
    private static void theGuardOfBadOnes() {
        String good = sector(0, 1, 0);
        Check.same("no bad one", guardsOf(0, good + sector(0, 2, 0) + "1"), 0);
        Check.same("the last one is bad", guardsOf(0, good + bad(2) + "1"), 1);
        Check.same("the first one is bad", guardsOf(0, bad(2) + good + "1"), 1);
    }

    /** "2 two SECTORS have the same NUMBER": the first and the last, and BAD ones too. */
    private static void theGuardOfTwins() {
        String one = sector(0, 1, 0);
        Check.same("one sector", guardsOf(0, one + "1"), 0);
        Check.same("two numbers", guardsOf(0, one + sector(0, 2, 0) + "1"), 0);
        Check.same("two of a number", guardsOf(0, one + sector(0, 1, 7) + "1"), 2);
        Check.same("the first and the last", guardsOf(0, one + sector(0, 2, 0) + one + "1"), 2);
        Check.same("the second and the last", guardsOf(0, sector(0, 2, 0) + one + one + "1"), 2);
        Check.same("a good and a bad one", guardsOf(0, one + bad(1) + "1"), 3);
        Check.same("two bad ones", guardsOf(0, bad(1) + bad(1) + "1"), 3);
    }

    /** "4 UNSURE is above 0": 0, and 1 by a place or by a CELL. */
    private static void theGuardOfWhatIsUnsure() {
        FluxBench place = Patterns.read(0, "1".repeat(16));
        place.read(0);
        Check.same("unsure 0", place.ofTrack(0, 9), 0);
        place.dirt(0, 3, 3);
        place.read(0);
        Check.same("unsure 1 by a place", place.ofTrack(0, 9), 4);
        FluxBench cell = Patterns.read(0, "1".repeat(16));
        cell.dirt(0, 15, 15);
        cell.read(0);
        Check.same("unsure 1 by a cell", cell.ofTrack(0, 9), 4);
    }

    /** "8 there is a STRAY one; 16 there is a CUT one" */
    private static void theGuardsOfStrayAndCutOnes() {
        Check.same("neither", guardsOf(0, sector(0, 1, 0) + "1"), 0);
        Check.same("a stray one", guardsOf(0, Cells.MARK), 8);
        Check.same("two stray ones", guardsOf(0, Cells.MARK + Cells.MARK), 8);
        Check.same("a cut one", guardsOf(0, Cells.MARK + Cells.paired(1, 1)), 16);
        Check.same("both", guardsOf(0, Cells.MARK + Cells.MARK + Cells.paired(1, 1)), 24);
    }

    /** "32 the VOTE has more than 300 CELLS": 299, 300, 301 and 400; of the VOTE, and not of the row. */
    private static void theGuardOfMoreThan300() {
        int[] lengths = {1, 299, 300, 301, 400};
        for (int length : lengths) {
            FluxBench bench = Patterns.read(0, "1".repeat(length));
            Check.same(length + " cells", bench.ofTrack(0, 9), length > 300 ? 32 : 0);
        }
        FluxBench bench = Patterns.read(0, "1".repeat(301));
        bench.dirt(0, 300, 300);
        bench.read(0);
        Check.same("the shortest turn has 300", bench.ofTrack(0, 9), 4);
    }

    /** "GUARDS of a TRACK are a set (a sum)": none, and all of them at once. */
    private static void theGuardsMayBeNoneOrAll() {
        FluxBench bench = Benches.withTrack(0);
        Check.same("no turns", bench.ofTrack(0, 9), 0);
        bench.sector(0, 1, 1, 0, true);
        bench.sector(0, 1, 1, 0, false);
        for (int i = 0; i < 12; i++) {
            bench.mark(0);
        }
        Benches.writeAll(bench, 0, 1, 4, 255);
        bench.read(0);
        Check.same("all but unsure", bench.ofTrack(0, 9), 59);
        bench.dirt(0, 317, 317);
        bench.read(0);
        Check.same("all", bench.ofTrack(0, 9), 63);
    }

    private static void chainIs(String what, String cells, int number, int due) {
        Check.same(what, Patterns.read(0, cells + "1").chain(0, number), due);
    }

    /** "255 as that BYTE ends it": of one SECTOR, of as many as there are; 254 and 0 do not end it. */
    private static void aChainEndsWith255() {
        chainIs("one", sector(0, 1, 255), 1, 1);
        chainIs("254 is a number", sector(0, 1, 254), 1, -1);
        chainIs("0 is a number", sector(0, 1, 0) + sector(0, 0, 255), 1, 2);
        chainIs("only the first byte of its DATA", sector(0, 1, 255, 7), 1, 1);
        chainIs("not the second one", sector(0, 1, 7, 255), 1, -1);
    }

    /** A CHAIN of eight, as many SECTORS as a row can hold; the SUM of the eighth ends with a 1. */
    private static void aChainMayHaveEverySector() {
        FluxBench bench = Benches.withTrack(2);
        int[] numbers = {0, 1, 2, 3, 4, 5, 6, 17};
        for (int i = 0; i < 8; i++) {
            Benches.shortSector(bench, 0, numbers[i], i == 7 ? 255 : numbers[i + 1]);
        }
        bench.read(0);
        Check.same("eight sectors", bench.ofTrack(0, 6), 8);
        Check.same("a chain of eight", bench.chain(0, 0), 8);
        Check.same("a chain of the last", bench.chain(0, 17), 1);
    }

    /** "(a CHAIN may begin at 255)" */
    private static void aChainMayBeginAt255() {
        chainIs("and end there", sector(0, 255, 255), 255, 1);
        chainIs("and go on", sector(0, 255, 3) + sector(0, 3, 255), 255, 2);
        chainIs("but it does not come back to it", sector(0, 3, 255) + sector(0, 255, 9), 3, 1);
        chainIs("if there is such a sector", sector(0, 3, 255), 255, -1);
    }

    /** "It is broken, if there is no such SECTOR, ..": at its begin, later on, and without TURNS. */
    private static void aChainBreaksWhereNoSectorIs() {
        chainIs("at its begin", sector(0, 1, 255), 2, -1);
        chainIs("at its second one", sector(0, 1, 2), 1, -1);
        chainIs("at its third one", sector(0, 1, 2) + sector(0, 2, 3), 1, -1);
        chainIs("where there is but a bad one", bad(1), 1, -1);
        FluxBench bench = Benches.withTrack(0);
        bench.sector(0, 1, 1, 255, true);
        Check.same("without turns", bench.chain(0, 1), -1);
    }

    /** "the first SECTOR with that NUMBER that is GOOD": behind a BAD one, and ahead of a GOOD one. */
    private static void aChainTakesTheFirstGoodOne() {
        chainIs("behind a bad one", bad(1) + sector(0, 1, 255), 1, 1);
        chainIs("ahead of a good one", sector(0, 1, 255) + sector(0, 1, 9), 1, 1);
        chainIs("and not the second", sector(0, 1, 9) + sector(0, 1, 255), 1, -1);
    }

    /** "or one would come again": itself, the first one, and a later one. */
    private static void aChainBreaksWhereOneComesAgain() {
        chainIs("itself", sector(0, 1, 1), 1, -1);
        chainIs("the first one", sector(0, 1, 2) + sector(0, 2, 1), 1, -1);
        chainIs("a later one", sector(0, 1, 2) + sector(0, 2, 2), 1, -1);
        chainIs("beside one that ends", sector(0, 1, 2) + sector(0, 2, 1) + sector(0, 3, 255), 1, -1);
        chainIs("the one that ends", sector(0, 1, 2) + sector(0, 2, 1) + sector(0, 3, 255), 3, 1);
    }

    /** "IllegalArgumentException if number is not 0 to 255" */
    private static void chainsAreAskedFrom0To255() {
        FluxBench bench = Patterns.read(0, sector(0, 0, 255) + "1");
        int[] wrong = {-1, 256, Integer.MIN_VALUE, Integer.MAX_VALUE};
        for (int number : wrong) {
            Check.refusesArgument("chain from " + number, bench, () -> bench.chain(0, number));
        }
        Check.same("from 0", bench.chain(0, 0), 1);
        Check.same("from 255", bench.chain(0, 255), -1);
    }

    /** "IllegalArgumentException if code is not 0 to 2", and the VOTE by each CODE, with and without TURNS. */
    private static void goodByIsAskedByEachCode() {
        FluxBench bench = Benches.withTrack(2);
        bench.sector(0, 1, 1, 255, true);
        int[] wrong = {-1, 3, Integer.MIN_VALUE, Integer.MAX_VALUE};
        for (int code : wrong) {
            Check.refusesArgument("good by " + code, bench, () -> bench.goodBy(0, code));
        }
        for (int code = 0; code <= 2; code++) {
            Check.same("without turns", bench.goodBy(0, code), 0);
        }
        bench.read(0);
        int[] due = {0, 0, 1};
        for (int code = 0; code <= 2; code++) {
            Check.same("by code " + code, bench.goodBy(0, code), due[code]);
        }
        FluxBench mixed = Patterns.read(0, sector(0, 1, 255) + sector(2, 2, 255) + sector(0, 3, 255) + "1");
        Check.same("the two of code 0", mixed.goodBy(0, 0), 2);
        Check.same("which are of code 1 too", mixed.goodBy(0, 1), 2);
        Check.same("the one of code 2", mixed.goodBy(0, 2), 1);
    }

    public static void main(String[] args) {
        aMarkIsLookedForFromPlace0ToTheEnd();
        aMarkIsAllOfItsTenCells();
        oneGoesOnJustBehindAStrayMark();
        itsLastCellBeginsNoMarkBehindAnyStrayOne();
        theEndOfNumberAndCount();
        aNumberOrCountThatIsNoneIsStray();
        aCountThatIsNot1To4IsStray();
        theEndOfSum();
        behindACutOneNothingIsFound();
        oneGoesOnBehindTheSum();
        clocksDoNotMatter();
        aHalfHasToBeOneOfTheSixteen();
        aByteThatIsNoneMakesItBad();
        aNoneIsNoNumber();
        aSumIsReadModulo256();
        sectorsAreNumberedFrom0();
        dataEndsWithCount();
        oneLooksAnewWithEachTurn();
        theGuardOfBadOnes();
        theGuardOfTwins();
        theGuardOfWhatIsUnsure();
        theGuardsOfStrayAndCutOnes();
        theGuardOfMoreThan300();
        theGuardsMayBeNoneOrAll();
        aChainEndsWith255();
        aChainMayHaveEverySector();
        aChainMayBeginAt255();
        aChainBreaksWhereNoSectorIs();
        aChainTakesTheFirstGoodOne();
        aChainBreaksWhereOneComesAgain();
        chainsAreAskedFrom0To255();
        goodByIsAskedByEachCode();
        Check.end("SectorEdgesTest");
    }
}
