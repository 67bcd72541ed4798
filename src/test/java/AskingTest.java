/** Promises 12, 13 and 17 to 24: what one asks, and what would be. */
final class AskingTest {
    private static void promise12OfCell() {
        FluxBench bench = Benches.withTrack(0);
        bench.speed(10);
        bench.write(0, 1);
        bench.weak(0, 15, true);
        bench.dirt(0, 14, 14);
        int[] due = {1, 10, 1, 0};
        for (int what = 0; what < 4; what++) {
            Check.same("12: what " + what, bench.ofCell(0, 15, what), due[what]);
        }
        Check.same("12: a 0", bench.ofCell(0, 13, 0), 0);
        Check.same("12: dirty", bench.ofCell(0, 14, 3), 1);
        Benches.readTimes(bench, 0, 2);
        Check.same("12: shed", bench.ofCell(0, 14, 3), 2);
        Check.refusesArgument("12: what -1", bench, () -> bench.ofCell(0, 0, -1));
        Check.refusesArgument("12: what 4", bench, () -> bench.ofCell(0, 0, 4));
        Check.refusesPlace("12: place 16", bench, () -> bench.ofCell(0, 16, 0));
        Check.refusesPlace("12: place -1 first", bench, () -> bench.ofCell(0, -1, 9));
        Check.refusesPlace("12: no track", bench, () -> bench.ofCell(1, 0, 0));
    }

    private static void ofTrackIs(String name, FluxBench bench, int track, int... due) {
        for (int what = 0; what < due.length; what++) {
            Check.same("13: " + name + ", what " + what, bench.ofTrack(track, what), due[what]);
        }
    }

    private static void promise13OfTrack() {
        FluxBench bench = Benches.withTrack(2);
        ofTrackIs("a new one", bench, 0, 2, 0, 0, 0, 0, 0, 0, 0, 0, 0, 0, 0);
        bench.sector(0, 1, 1, 255, true);
        bench.sector(0, 2, 2, 255, false);
        bench.sector(0, 1, 3, 255, true);
        ofTrackIs("not read", bench, 0, 2, 183, 0, 0, 0, 0, 0, 0, 0, 0, 0, 183 * 8);
        bench.read(0);
        ofTrackIs("twins and a bad one", bench, 0, 2, 183, 1, 183, 0, 3, 2, 0, 0, 3, 1, 183 * 8);
        bench.mark(0);
        bench.mark(0);
        Benches.writeAll(bench, 0, 3, 5, 255);
        bench.mark(0);
        Benches.writeAll(bench, 0, 3, 4, 255);
        bench.read(0);
        ofTrackIs("two stray ones and a cut one", bench, 0, 2, 273, 2, 183, 90, 3, 2, 0, 0, 7, 2, 273 * 8);
        Benches.readTimes(bench, 0, 2);
        ofTrackIs("read until it is sure", bench, 0, 2, 273, 3, 273, 0, 3, 2, 2, 1, 27, 4, 273 * 8);
        Check.refusesArgument("13: what -1", bench, () -> bench.ofTrack(0, -1));
        Check.refusesArgument("13: what 12", bench, () -> bench.ofTrack(0, 12));
        Check.refusesPlace("13: no track first", bench, () -> bench.ofTrack(1, 12));
        Check.refusesPlace("13: track -1", bench, () -> bench.ofTrack(-1, 0));
    }

    private static void promise13EachGuardAlone() {
        FluxBench bad = Benches.withTrack(0);
        bad.sector(0, 1, 1, 1, false);
        bad.read(0);
        Check.same("13: bad alone", bad.ofTrack(0, 9), 1);
        FluxBench twins = Benches.withTrack(0);
        twins.sector(0, 1, 1, 1, true);
        twins.sector(0, 2, 1, 1, true);
        twins.sector(0, 1, 2, 9, true);
        twins.read(0);
        Check.same("13: twins alone", twins.ofTrack(0, 9), 2);
        FluxBench unsure = Benches.withTrack(0);
        unsure.write(0, 255);
        unsure.read(0);
        unsure.dirt(0, 3, 3);
        unsure.read(0);
        Check.same("13: unsure alone", unsure.ofTrack(0, 9), 4);
        FluxBench cut = Benches.withTrack(2);
        cut.mark(0);
        Benches.writeAll(cut, 0, 1, 1);
        cut.read(0);
        Check.same("13: cut alone", cut.ofTrack(0, 9), 16);
        cut.write(0, 17);
        cut.write(0, 19);
        Benches.readTimes(cut, 0, 3);
        Check.same("13: the cut one is whole then", cut.ofTrack(0, 9), 0);
        FluxBench stray = Benches.withTrack(2);
        stray.mark(0);
        stray.track(2);
        stray.sector(1, 1, 1, 1, true);
        stray.read(0);
        stray.read(1);
        Check.same("13: stray alone", stray.ofTrack(0, 9), 8);
        stray.copy(1, 0, true);
        Check.same("13: none without turns", stray.ofTrack(0, 9), 0);
    }

    private static void promise13LongGuard() {
        FluxBench bench = Benches.withTrack(2);
        for (int i = 0; i < 30; i++) {
            bench.write(0, 255);
        }
        bench.read(0);
        Check.same("13: 300 cells", bench.ofTrack(0, 3), 300);
        Check.same("13: are not long", bench.ofTrack(0, 9), 0);
        bench.write(0, 0x88);
        Benches.readTimes(bench, 0, 3);
        Check.same("13: 310 cells", bench.ofTrack(0, 3), 310);
        Check.same("13: are long", bench.ofTrack(0, 9), 32);
        FluxBench early = Benches.withTrack(2);
        early.write(0, 0x8F);
        for (int i = 0; i < 29; i++) {
            early.write(0, 255);
        }
        early.write(0, 0x08);
        early.dirt(0, 301, 309);
        early.read(0);
        Check.same("13: 300 by a turn that ends early", early.ofTrack(0, 3), 300);
        early.clean(0);
        early.dirt(0, 302, 309);
        Benches.readTimes(early, 0, 3);
        Check.same("13: 302 are long", early.ofTrack(0, 9), 32);
        early.clean(0);
        FluxBench above = Benches.withTrack(0);
        for (int i = 0; i < 19; i++) {
            above.write(0, 255);
        }
        above.dirt(0, 301, 303);
        above.read(0);
        Check.same("13: 301 cells", above.ofTrack(0, 3), 301);
        Check.same("13: are long", above.ofTrack(0, 9), 32);
    }

    /** The row ends just at, or one CELL ahead of, the end of NUMBER and COUNT, and of SUM. */
    private static void part3Ends() {
        FluxBench bench = Benches.withTrack(0);
        bench.mark(0);
        Benches.writeAll(bench, 0, 3, 1);
        bench.read(0);
        Check.same("13: the head is whole: cut", bench.ofTrack(0, 9), 16);
        FluxBench head = Benches.withTrack(0);
        head.mark(0);
        Benches.writeAll(head, 0, 3, 3);
        head.dirt(0, 41, 41);
        head.read(0);
        Check.same("13: the head is not whole: stray", head.ofTrack(0, 9), 8);
        FluxBench sum = Benches.withTrack(0);
        sum.mark(0);
        Benches.writeAll(sum, 0, 3, 1, 1, 5);
        sum.read(0);
        Check.same("13: the sum is whole: good", sum.ofTrack(0, 6), 1);
        Check.same("13: and nothing else", sum.ofTrack(0, 9), 0);
        FluxBench less = Benches.withTrack(0);
        less.mark(0);
        Benches.writeAll(less, 0, 3, 1, 1, 5);
        less.dirt(0, 73, 73);
        less.read(0);
        Check.same("13: the sum is not whole: cut", less.ofTrack(0, 9), 16);
        Check.same("13: no sector", less.ofTrack(0, 5), 0);
    }

    private static void part3Counts() {
        int[] counts = {0, 1, 4, 5, 255};
        int[] due = {0, 1, 1, 0, 0};
        for (int code = 0; code <= 2; code++) {
            for (int i = 0; i < counts.length; i++) {
                FluxBench bench = Benches.withTrack(code);
                bench.mark(0);
                Benches.writeAll(bench, 0, 1, counts[i]);
                for (int k = 0; k < Math.min(5, counts[i]); k++) {
                    bench.write(0, 0);
                }
                bench.write(0, 1 + counts[i] & 255);
                bench.mark(0);
                bench.read(0);
                Check.same("13: count " + counts[i] + " by code " + code, bench.ofTrack(0, 5), due[i]);
                Check.same("13: and the mark behind it", bench.ofTrack(0, 7), 2 - due[i]);
            }
        }
    }

    /** Five CELLS that are none of the sixteen: in NUMBER, in COUNT, in DATA and in SUM. */
    private static void part3None() {
        int[] places = {10, 20, 30, 40};
        int[] strays = {1, 1, 0, 0};
        for (int i = 0; i < places.length; i++) {
            FluxBench bench = Benches.withTrack(2);
            bench.sector(0, 0x11, 1, 0x11, true);
            bench.dirt(0, places[i], places[i] + 4);
            bench.read(0);
            Check.same("13: none at " + places[i], bench.ofTrack(0, 7), strays[i]);
            Check.same("13: bad at " + places[i], bench.ofTrack(0, 5) - bench.ofTrack(0, 6), 1 - strays[i]);
        }
        FluxBench data = Benches.withTrack(2);
        data.sector(0, 17, 2, 0x1111, true);
        data.dirt(0, 45, 49);
        data.read(0);
        Check.sameText("17: a byte of data that is none", Benches.sectorOf(data, 0, 0), "0 17 2 0 53 17 -1 -1 -1");
        FluxBench sum = Benches.withTrack(2);
        sum.sector(0, 17, 2, 0x1111, true);
        sum.dirt(0, 50, 54);
        sum.read(0);
        Check.sameText("17: a sum that is none", Benches.sectorOf(sum, 0, 0), "0 17 2 0 -1 17 17 -1 -1");
        Check.same("18: a bad one begins no chain", sum.chain(0, 17), -1);
    }

    /** A NONE of DATA is not let by a SUM that is less by it. */
    private static void part3NoneAndSum() {
        FluxBench bench = Benches.withTrack(2);
        bench.mark(0);
        Benches.writeAll(bench, 0, 17, 1, 17, 17);
        bench.dirt(0, 30, 34);
        bench.read(0);
        Check.sameText("17: 17 and 1 and NONE are not 17", Benches.sectorOf(bench, 0, 0), "0 17 1 0 17 -1 -1 -1 -1");
    }

    private static void promise17OfSector() {
        FluxBench bench = Benches.withTrack(1);
        bench.write(0, 0);
        bench.sector(0, 5, 2, 0xFFFE, true);
        bench.sector(0, 6, 1, 9, false);
        Check.refusesPlace("17: not read", bench, () -> bench.ofSector(0, 0, 0));
        bench.read(0);
        Check.sameText("17: a good one", Benches.sectorOf(bench, 0, 0), "16 5 2 1 4 254 255 -1 -1");
        Check.sameText("17: a bad one", Benches.sectorOf(bench, 0, 1), "107 6 1 0 17 9 -1 -1 -1");
        Check.refusesPlace("17: sector 2", bench, () -> bench.ofSector(0, 2, 0));
        Check.refusesPlace("17: sector -1", bench, () -> bench.ofSector(0, -1, 0));
        Check.refusesPlace("17: no sector, first", bench, () -> bench.ofSector(0, 2, 9));
        Check.refusesPlace("17: no track", bench, () -> bench.ofSector(1, 0, 0));
        Check.refusesArgument("17: what 9", bench, () -> bench.ofSector(0, 1, 9));
        Check.refusesArgument("17: what -1", bench, () -> bench.ofSector(0, 1, -1));
        FluxBench many = Benches.withTrack(2);
        for (int number = 0; number < 7; number++) {
            Benches.shortSector(many, 0, 10 + number, number);
        }
        Benches.shortSector(many, 0, 7, 21);
        many.read(0);
        Check.same("17: eight sectors", many.ofTrack(0, 5), 8);
        Check.sameText("17: the eighth", Benches.sectorOf(many, 0, 7), "350 7 1 1 29 21 -1 -1 -1");
    }

    private static void promise18Chain() {
        FluxBench bench = Benches.withTrack(2);
        Check.same("18: without turns", bench.chain(0, 1), -1);
        bench.sector(0, 1, 1, 2, true);
        bench.sector(0, 3, 2, 0x0AFF, true);
        bench.sector(0, 2, 1, 3, false);
        bench.sector(0, 2, 1, 3, true);
        bench.sector(0, 255, 1, 1, true);
        bench.sector(0, 4, 1, 5, true);
        bench.sector(0, 5, 1, 4, true);
        bench.read(0);
        Check.same("18: one", bench.chain(0, 3), 1);
        Check.same("18: the bad one is passed over", bench.chain(0, 2), 2);
        Check.same("18: three", bench.chain(0, 1), 3);
        Check.same("18: it may begin at 255", bench.chain(0, 255), 4);
        Check.same("18: one would come again", bench.chain(0, 4), -1);
        Check.same("18: no such sector", bench.chain(0, 9), -1);
        Check.same("18: NUMBER 0", bench.chain(0, 0), -1);
        Check.refusesArgument("18: 256", bench, () -> bench.chain(0, 256));
        Check.refusesArgument("18: -1", bench, () -> bench.chain(0, -1));
        Check.refusesPlace("18: no track first", bench, () -> bench.chain(1, 256));
        FluxBench whole = Benches.withTrack(2);
        for (int number = 0; number < 6; number++) {
            whole.sector(0, number, 1, number == 5 ? 255 : number + 1, true);
        }
        whole.sector(0, 0, 1, 255, true);
        whole.read(0);
        Check.same("18: all sectors, the first of a number", whole.chain(0, 0), 6);
        FluxBench two = Benches.withTrack(0);
        two.sector(0, 1, 1, 255, true);
        two.sector(0, 2, 1, 1, true);
        two.read(0);
        Check.same("18: as many as there are", two.chain(0, 2), 2);
        two.dirt(0, 75, 84);
        Benches.readTimes(two, 0, 3);
        Check.same("18: a sector that is found no more", two.chain(0, 2), -1);
        Check.same("21: nor copied", two.plainLong(0), 75);
        FluxBench self = Benches.withTrack(0);
        self.sector(0, 1, 1, 1, true);
        self.sector(0, 2, 1, 6, true);
        self.read(0);
        Check.same("18: itself", self.chain(0, 1), -1);
        Check.same("18: a next one that is none", self.chain(0, 2), -1);
    }

    private static void promise19Many() {
        FluxBench bench = Benches.withTrack(2);
        bench.track(0);
        bench.mark(0);
        bench.mark(1);
        bench.weak(0, 9, true);
        bench.dirt(0, 0, 1);
        bench.dirt(1, 5, 7);
        Benches.readTimes(bench, 0, 2);
        Benches.readTimes(bench, 1, 2);
        bench.speed(9);
        bench.copy(0, 1, true);
        bench.mark(1);
        int[] due = {2, 9, 10, 4, 2, 0, 1};
        for (int what = 0; what < due.length; what++) {
            Check.same("19: what " + what, bench.many(what), due[what]);
        }
        bench.dirt(1, 5, 7);
        Benches.readTimes(bench, 1, 2);
        Check.same("19: shed in all rows", bench.many(4), 5);
        bench.copy(0, 1, false);
        bench.copy(0, 1, false);
        Check.same("19: plain", bench.many(5), 2);
        Check.same("19: what is shed is gone with its row", bench.many(4), 2);
        Check.refusesArgument("19: -1", bench, () -> bench.many(-1));
        Check.refusesArgument("19: 7", bench, () -> bench.many(7));
    }

    private static void promise20Sure() {
        FluxBench bench = Benches.withTrack(0);
        Check.sameDouble("20: without turns", bench.sure(0), 0.0);
        bench.write(0, 255);
        bench.dirt(0, 0, 15);
        bench.read(0);
        Check.sameDouble("20: both are 0", bench.sure(0), 0.0);
        bench.clean(0);
        bench.read(0);
        Check.sameDouble("20: all unsure", bench.sure(0), 0.0);
        Benches.readTimes(bench, 0, 2);
        Check.sameDouble("20: all sure", bench.sure(0), 1.0);
        bench.dirt(0, 3, 5);
        bench.read(0);
        Check.sameDouble("20: three of sixteen", bench.sure(0), 1.0 - 3.0 / 19);
        Check.refusesPlace("20: no track", bench, () -> bench.sure(1));
        Check.refusesPlace("20: track -1", bench, () -> bench.sure(-1));
    }

    /** plainLong() and wouldLose() told by a copy that is made and READ. */
    private static void asTheCopy(String name, FluxBench bench) {
        int plainLong = bench.plainLong(0);
        int wouldLose = bench.wouldLose(0);
        int had = bench.ofTrack(0, 9);
        bench.track(1);
        Check.same("21: " + name, bench.copy(0, 1, false), plainLong);
        if (plainLong > 0) {
            bench.read(1);
        }
        Check.same("22: " + name, had & ~bench.ofTrack(1, 9), wouldLose);
    }

    private static void promise21And22() {
        FluxBench bench = Benches.withTrack(2);
        Check.same("21: without turns", bench.plainLong(0), 0);
        Check.same("22: without turns", bench.wouldLose(0), 0);
        bench.sector(0, 1, 1, 255, true);
        bench.sector(0, 1, 2, 255, true);
        bench.sector(0, 2, 3, 255, false);
        bench.sector(0, 2, 4, 255, true);
        bench.mark(0);
        bench.mark(0);
        Benches.writeAll(bench, 0, 3, 1);
        Check.same("21: not read", bench.plainLong(0), 0);
        bench.read(0);
        Check.same("21: two sectors", bench.plainLong(0), 51 + 81);
        Check.same("22: bad, twins, stray, cut and not so long", bench.wouldLose(0), 1 + 2 + 8 + 16 + 32);
        long before = bench.digest();
        bench.wouldLose(0);
        bench.plainLong(0);
        Check.same("22: nothing is changed", bench.digest(), before);
        asTheCopy("much is lost", bench);
        FluxBench full = Benches.withTrack(0);
        for (int number = 0; number < 5; number++) {
            full.sector(0, number, 1, 255, number != 1);
        }
        full.read(0);
        Check.same("21: code 0", full.plainLong(0), 300);
        Check.same("22: 300 are not long", full.wouldLose(0), 33);
        asTheCopy("four of five", full);
        FluxBench stays = Benches.withTrack(1);
        for (int number = 0; number < 5; number++) {
            stays.sector(0, number, 1, 0, true);
        }
        stays.read(0);
        Check.same("22: 375 stay long", stays.wouldLose(0), 0);
        stays.weak(0, 374, true);
        Benches.readTimes(stays, 0, 3);
        Check.same("22: the weak end is lost", stays.wouldLose(0) & 4, 4);
        asTheCopy("all five", stays);
        Check.refusesPlace("21: no track", stays, () -> stays.plainLong(2));
        Check.refusesPlace("21: track -1", stays, () -> stays.plainLong(-1));
        Check.refusesPlace("22: no track", stays, () -> stays.wouldLose(2));
        Check.refusesPlace("22: track -1", stays, () -> stays.wouldLose(-1));
    }

    private static void promise23GoodBy() {
        for (int code = 0; code <= 2; code++) {
            FluxBench bench = Benches.withTrack(code);
            Check.same("23: without turns", bench.goodBy(0, code), 0);
            bench.sector(0, 1, 2, 770, true);
            bench.sector(0, 2, 2, 770, false);
            bench.sector(0, 2, 1, 0, true);
            bench.read(0);
            for (int by = 0; by <= 2; by++) {
                int due = (code == 2) == (by == 2) ? 2 : 0;
                Check.same("23: code " + code + " by " + by, bench.goodBy(0, by), due);
            }
            Check.refusesArgument("23: code 3", bench, () -> bench.goodBy(0, 3));
            Check.refusesArgument("23: code -1", bench, () -> bench.goodBy(0, -1));
            Check.refusesPlace("23: no track first", bench, () -> bench.goodBy(1, 3));
        }
    }

    private static long fold(FluxBench bench) {
        long d = 9601;
        for (int what = 0; what <= 6; what++) {
            d = d * 31 + bench.many(what);
        }
        for (int track = 0; track < bench.many(0); track++) {
            for (int what = 0; what <= 11; what++) {
                d = d * 31 + bench.ofTrack(track, what);
            }
            for (int turn = 0; turn < bench.ofTrack(track, 2); turn++) {
                d = d * 31 + bench.turn(track, turn, true);
                d = d * 31 + bench.turn(track, turn, false);
            }
            d = d * 31 + bench.plainLong(track);
            d = d * 31 + bench.wouldLose(track);
            for (int code = 0; code <= 2; code++) {
                d = d * 31 + bench.goodBy(track, code);
            }
            for (int sector = 0; sector < bench.ofTrack(track, 5); sector++) {
                for (int what = 0; what <= 8; what++) {
                    d = d * 31 + bench.ofSector(track, sector, what);
                }
            }
        }
        return d;
    }

    private static void promise24Digest() {
        FluxBench bench = Benches.withTrack(2);
        bench.track(1);
        bench.track(0);
        Check.same("24: three tracks", bench.digest(), fold(bench));
        for (int track = 0; track < 3; track++) {
            bench.sector(track, 1, 2, 770, true);
            bench.sector(track, 1, 1, 9, track != 1);
            bench.weak(track, 30, true);
            Benches.readTimes(bench, track, 2 + track);
        }
        Check.same("24: sectors and turns", bench.digest(), fold(bench));
        bench.copy(0, 2, false);
        bench.copy(1, 0, true);
        Check.same("24: copies", bench.digest(), fold(bench));
        Check.same("24: asked twice", bench.digest(), bench.digest());
    }

    public static void main(String[] args) {
        promise12OfCell();
        promise13OfTrack();
        promise13EachGuardAlone();
        promise13LongGuard();
        part3Ends();
        part3Counts();
        part3None();
        part3NoneAndSum();
        promise17OfSector();
        promise18Chain();
        promise19Many();
        promise20Sure();
        promise21And22();
        promise23GoodBy();
        promise24Digest();
        Check.end("AskingTest");
    }
}
