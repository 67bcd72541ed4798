/** Promises 1 to 9: what is written, and what spoils it. */
final class WritingTest {
    private static void promise1NewObject() {
        FluxBench bench = new FluxBench();
        int[] due = {0, 8, 0, 0, 0, 0, 0};
        long d = 9601;
        for (int what = 0; what < due.length; what++) {
            Check.same("1: many(" + what + ")", bench.many(what), due[what]);
            d = d * 31 + due[what];
        }
        Check.same("1: digest", bench.digest(), d);
        Check.refusesPlace("1: ofTrack", bench, () -> bench.ofTrack(0, 0));
        Check.same("1: two benches are apart", new FluxBench().track(2), 0);
    }

    private static void promise2Track() {
        FluxBench bench = new FluxBench();
        Check.refusesArgument("2: code -1", bench, () -> bench.track(-1));
        Check.refusesArgument("2: code 3", bench, () -> bench.track(3));
        int[] codes = {2, 0, 1, 2};
        for (int i = 0; i < codes.length; i++) {
            Check.same("2: its number", bench.track(codes[i]), i);
            Check.same("2: its code", bench.ofTrack(i, 0), codes[i]);
            Check.same("2: an empty row", bench.ofTrack(i, 1), 0);
        }
        Check.refusesState("2: a fifth", bench, () -> bench.track(0));
        Check.refusesArgument("2: the code is looked at first", bench, () -> bench.track(3));
    }

    private static void promise3Speed() {
        FluxBench bench = Benches.withTrack(2);
        bench.mark(0);
        Check.same("3: the first speed", bench.speed(6), 8);
        Check.same("3: the one before", bench.speed(11), 6);
        bench.mark(0);
        Check.same("3: the one before again", bench.speed(9), 11);
        Check.refusesArgument("3: 5", bench, () -> bench.speed(5));
        Check.refusesArgument("3: 12", bench, () -> bench.speed(12));
        Check.same("3: many", bench.many(1), 9);
        Check.same("3: what stood keeps its width", bench.ofCell(0, 9, 1), 8);
        Check.same("3: the speed is the width", bench.ofCell(0, 10, 1), 11);
        Check.same("3: widths together", bench.ofTrack(0, 11), 80 + 110);
    }

    private static void promise4Write() {
        FluxBench bench = Benches.withTrack(0);
        Check.same("4: code 0", bench.write(0, 0xA5), 16);
        Check.sameText("4: cells of code 0", Benches.rowFrom(bench, 0, 0), "1110111010111011");
        bench.track(2);
        for (int half = 0; half < 16; half++) {
            Check.same("4: code 2", bench.write(1, 16 * half + (15 - half)), 10 * half + 10);
            Check.sameText("4: cells of code 2", Benches.rowFrom(bench, 1, 10 * half), Cells.group(half) + Cells.group(15 - half));
        }
        Check.same("4: steady", bench.ofCell(1, 3, 2), 0);
        Check.same("4: clean", bench.ofCell(1, 3, 3), 0);
        Check.refusesPlace("4: no track", bench, () -> bench.write(2, 0));
        Check.refusesPlace("4: no track and no byte", bench, () -> bench.write(-1, 256));
        Check.refusesArgument("4: 256", bench, () -> bench.write(0, 256));
        Check.refusesArgument("4: -1", bench, () -> bench.write(0, -1));
        for (int cells = 170; cells <= 400; cells += 10) {
            Check.same("4: until it is full", bench.write(1, 255), cells);
        }
        Check.refusesState("4: full", bench, () -> bench.write(1, 0));
        Check.refusesArgument("4: full and no byte", bench, () -> bench.write(1, 256));
        for (int cells = 32; cells <= 400; cells += 16) {
            Check.same("4: code 0 until it is full", bench.write(0, 0), cells);
        }
        Check.refusesState("4: code 0 full", bench, () -> bench.write(0, 0));
    }

    private static void promise4Clocks() {
        FluxBench bench = Benches.withTrack(1);
        bench.write(0, 0);
        Check.sameText("4: clocks in an empty row", Benches.rowFrom(bench, 0, 0), "1010101010101010");
        bench.write(0, 0x81);
        Check.sameText("4: clocks behind a 0", Benches.rowFrom(bench, 0, 16), "0100101010101001");
        bench.write(0, 0x40);
        Check.sameText("4: no clock behind a 1", Benches.rowFrom(bench, 0, 32), "0001001010101010");
        bench.write(0, 1);
        bench.mark(0);
        bench.write(0, 0);
        Check.sameText("4: a clock behind a mark", Benches.rowFrom(bench, 0, 74), "1010101010101010");
        bench.sector(0, 1, 1, 0, false);
        bench.write(0, 0);
        Check.sameText("4: the SUM is ahead of what follows a sector", Benches.rowFrom(bench, 0, 165), "0010101010101010");
    }

    private static void promise4ClocksBehindCopies() {
        FluxBench bench = Benches.withTrack(1);
        bench.track(1);
        bench.sector(0, 1, 1, 1, true);
        bench.write(1, 1);
        bench.read(0);
        bench.copy(0, 1, true);
        bench.write(1, 0);
        Check.sameText("4: a clock behind a raw copy", Benches.rowFrom(bench, 1, 75), "1010101010101010");
        bench.write(1, 1);
        bench.copy(0, 1, false);
        bench.write(1, 0);
        Check.sameText("4: the SUM is ahead of what follows a plain copy", Benches.rowFrom(bench, 1, 75), "0010101010101010");
        FluxBench empty = Benches.withTrack(1);
        empty.track(1);
        empty.write(0, 1);
        empty.read(0);
        empty.write(1, 1);
        Check.same("4: an empty plain copy", empty.copy(0, 1, false), 0);
        empty.write(1, 0);
        Check.sameText("4: a clock in the row that it emptied", Benches.rowFrom(empty, 1, 0), "1010101010101010");
    }

    private static void promise5Mark() {
        FluxBench bench = Benches.withTrack(1);
        Check.same("5: ten cells", bench.mark(0), 10);
        Check.sameText("5: its cells", Benches.rowFrom(bench, 0, 0), Cells.MARK);
        bench.write(0, 255);
        for (int cells = 36; cells <= 396; cells += 10) {
            Check.same("5: one more", bench.mark(0), cells);
        }
        Check.refusesState("5: it would be 406", bench, () -> bench.mark(0));
        Check.refusesPlace("5: no track", bench, () -> bench.mark(1));
        Check.refusesPlace("5: track -1", bench, () -> bench.mark(-1));
        bench.track(2);
        for (int cells = 10; cells <= 400; cells += 10) {
            Check.same("5: up to 400", bench.mark(1), cells);
        }
        Check.refusesState("5: above 400", bench, () -> bench.mark(1));
    }

    private static void promise6Sector() {
        FluxBench bench = Benches.withTrack(2);
        bench.speed(7);
        Check.same("6: count 1", bench.sector(0, 1, 1, 255, true), 51);
        Check.sameText("6: its cells", Benches.rowFrom(bench, 0, 0), Cells.MARK + Cells.grouped(1, 1, 255, 1) + "1");
        Check.same("6: the speed is its width", bench.ofCell(0, 50, 1), 7);
        Check.same("6: wrong", bench.sector(0, 1, 1, 255, false), 102);
        Check.sameText("6: its cells", Benches.rowFrom(bench, 0, 51), Cells.MARK + Cells.grouped(1, 1, 255, 2) + "1");
        Check.same("6: a wrong sum wraps", bench.sector(0, 254, 1, 0, false), 153);
        Check.sameText("6: its cells", Benches.rowFrom(bench, 0, 102), Cells.MARK + Cells.grouped(254, 1, 0, 0) + "1");
        Check.same("6: four bytes", bench.sector(0, 255, 4, 0x7F020304, true), 234);
        Check.sameText("6: its cells", Benches.rowFrom(bench, 0, 153), Cells.MARK + Cells.grouped(255, 4, 4, 3, 2, 127, 139) + "1");
        Check.same("6: two bytes of more", bench.sector(0, 9, 2, 0x7F020304, true), 295);
        Check.sameText("6: its cells", Benches.rowFrom(bench, 0, 234), Cells.MARK + Cells.grouped(9, 2, 4, 3, 18) + "1");
        Check.same("6: three bytes", bench.sector(0, 0, 3, Integer.MAX_VALUE, true), 366);
        Check.sameText("6: its cells", Benches.rowFrom(bench, 0, 295), Cells.MARK + Cells.grouped(0, 3, 255, 255, 255, 0) + "1");
        Check.refusesState("6: it would be 417", bench, () -> bench.sector(0, 0, 1, 0, true));
        Check.refusesArgument("6: the count is looked at first", bench, () -> bench.sector(0, 0, 5, 0, true));
    }

    private static void promise6Refuses() {
        FluxBench bench = Benches.withTrack(0);
        Check.refusesPlace("6: no track", bench, () -> bench.sector(1, 0, 1, 0, true));
        Check.refusesPlace("6: no track, and all wrong", bench, () -> bench.sector(-1, -1, 0, -1, true));
        Check.refusesArgument("6: number -1", bench, () -> bench.sector(0, -1, 1, 0, true));
        Check.refusesArgument("6: number 256", bench, () -> bench.sector(0, 256, 1, 0, true));
        Check.refusesArgument("6: count 0", bench, () -> bench.sector(0, 0, 0, 0, true));
        Check.refusesArgument("6: count 5", bench, () -> bench.sector(0, 0, 5, 0, true));
        Check.refusesArgument("6: data -1", bench, () -> bench.sector(0, 0, 1, -1, true));
        Check.same("6: code 0, count 4", bench.sector(0, 0, 4, 0, true), 123);
        Check.same("6: code 0, count 1", bench.sector(0, 0, 1, 0, true), 198);
        for (int i = 0; i < 5; i++) {
            bench.mark(0);
        }
        bench.write(0, 0);
        bench.write(0, 0);
        Check.same("6: code 0, count 2", bench.sector(0, 0, 2, 0, true), 371);
        FluxBench full = Benches.withTrack(1);
        for (int i = 0; i < 25; i++) {
            full.mark(0);
        }
        full.sector(0, 0, 1, 0, true);
        Check.same("6: just 400", full.sector(0, 0, 1, 0, true), 400);
        FluxBench above = Benches.withTrack(1);
        for (int i = 0; i < 22; i++) {
            above.mark(0);
        }
        Benches.writeAll(above, 0, 0, 0);
        above.sector(0, 0, 1, 0, true);
        Check.refusesState("6: 402", above, () -> above.sector(0, 0, 1, 0, true));
    }

    private static void promise7Weak() {
        FluxBench bench = Benches.withTrack(2);
        bench.mark(0);
        Check.same("7: it was not", bench.weak(0, 9, true), false);
        Check.same("7: ofCell", bench.ofCell(0, 9, 2), 1);
        Check.same("7: its neighbour", bench.ofCell(0, 8, 2), 0);
        Check.same("7: it was", bench.weak(0, 9, true), true);
        Check.same("7: it was still", bench.weak(0, 9, false), true);
        Check.same("7: it is no more", bench.weak(0, 9, false), false);
        Check.refusesPlace("7: place 10", bench, () -> bench.weak(0, 10, true));
        Check.refusesPlace("7: place -1", bench, () -> bench.weak(0, -1, true));
        Check.refusesPlace("7: no track", bench, () -> bench.weak(1, 0, true));
        Check.refusesPlace("7: track -1", bench, () -> bench.weak(-1, 0, true));
    }

    private static void promise8Dirt() {
        FluxBench bench = Benches.withTrack(2);
        bench.mark(0);
        Check.same("8: three", bench.dirt(0, 2, 4), 3);
        Check.same("8: those that are told in its row", bench.dirt(0, 4, 9), 8);
        Check.same("8: ofCell ahead", bench.ofCell(0, 1, 3), 0);
        Check.same("8: ofCell first", bench.ofCell(0, 2, 3), 1);
        Check.same("8: ofCell last", bench.ofCell(0, 9, 3), 1);
        bench.read(0);
        Check.same("8: what is dirty already goes on counting", bench.dirt(0, 9, 9), 8);
        bench.read(0);
        Check.same("8: shed by the second read", bench.ofCell(0, 9, 3), 2);
        Check.same("8: what is shed stays so", bench.dirt(0, 0, 9), 2);
        Check.same("8: shed still", bench.ofCell(0, 2, 3), 2);
        Check.refusesArgument("8: to below from", bench, () -> bench.dirt(0, 3, 2));
        Check.refusesPlace("8: to is no place", bench, () -> bench.dirt(0, 3, 10));
        Check.refusesPlace("8: to -1 is no place first", bench, () -> bench.dirt(0, 3, -1));
        Check.refusesPlace("8: from is no place", bench, () -> bench.dirt(0, -1, 3));
        Check.refusesPlace("8: from 10 is no place first", bench, () -> bench.dirt(0, 10, 3));
        Check.refusesPlace("8: no track", bench, () -> bench.dirt(1, 0, 0));
        Check.same("8: one place", bench.dirt(0, 0, 0), 2);
    }

    private static void promise9Clean() {
        FluxBench bench = Benches.withTrack(2);
        Check.same("9: an empty row", bench.clean(0), 0);
        bench.mark(0);
        bench.dirt(0, 0, 1);
        bench.read(0);
        Check.same("9: nothing is shed", bench.clean(0), 0);
        Check.same("9: clean", bench.ofCell(0, 0, 3), 0);
        bench.dirt(0, 0, 0);
        bench.read(0);
        Check.same("9: the count began from 0 again", bench.ofCell(0, 0, 3), 1);
        bench.read(0);
        Check.same("9: shed", bench.ofCell(0, 0, 3), 2);
        bench.dirt(0, 5, 5);
        Check.same("9: how many are shed", bench.clean(0), 1);
        Check.same("9: shed stays", bench.ofCell(0, 0, 3), 2);
        Check.same("9: dirty is clean", bench.ofCell(0, 5, 3), 0);
        Check.refusesPlace("9: no track", bench, () -> bench.clean(1));
        Check.refusesPlace("9: track -1", bench, () -> bench.clean(-1));
    }

    public static void main(String[] args) {
        promise1NewObject();
        promise2Track();
        promise3Speed();
        promise4Write();
        promise4Clocks();
        promise4ClocksBehindCopies();
        promise5Mark();
        promise6Sector();
        promise6Refuses();
        promise7Weak();
        promise8Dirt();
        promise9Clean();
        Check.end("WritingTest");
    }
}
