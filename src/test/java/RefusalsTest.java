import java.util.ArrayList;
import java.util.List;

/**
 * "A method that throws an exception changes nothing. If several exceptions apply, the one that is named first is
 * thrown." Each refused call is made on a bench of its own; all that can be asked, and all that comes later, is then
 * held against a twin that was not so called.
 */
final class RefusalsTest {
    private static final int FAR = Integer.MAX_VALUE;
    private static final int LOW = Integer.MIN_VALUE;

    private static final Class<IndexOutOfBoundsException> PLACE = IndexOutOfBoundsException.class;
    private static final Class<IllegalArgumentException> ARGUMENT = IllegalArgumentException.class;
    private static final Class<IllegalStateException> STATE = IllegalStateException.class;

    private static final List<Refused> ALL = new ArrayList<>();

    /** A call that should throw. */
    private interface Call {
        void on(FluxBench bench);
    }

    private static final class Refused {
        final String name;
        final Class<? extends RuntimeException> due;
        final Call call;

        Refused(String name, Class<? extends RuntimeException> due, Call call) {
            this.name = name;
            this.due = due;
            this.call = call;
        }
    }

    private static void add(Class<? extends RuntimeException> due, String name, Call call) {
        ALL.add(new Refused(name, due, call));
    }

    /**
     * TRACK 0: CODE 1, a row of 107, spoiled and READ twice. TRACK 1: CODE 0, full, READ once. TRACK 2: CODE 2, empty.
     * TRACK 3: CODE 2, written, spoiled and not READ.
     */
    private static FluxBench rich() {
        FluxBench bench = new FluxBench();
        bench.track(1);
        bench.track(0);
        bench.track(2);
        bench.track(2);
        bench.sector(0, 1, 2, 770, true);
        bench.write(0, 5);
        bench.weak(0, 20, true);
        bench.read(0);
        bench.dirt(0, 30, 33);
        bench.read(0);
        bench.speed(9);
        for (int i = 0; i < 25; i++) {
            bench.write(1, 255);
        }
        bench.weak(1, 7, true);
        bench.read(1);
        bench.sector(3, 4, 1, 255, true);
        bench.sector(3, 5, 1, 4, false);
        bench.weak(3, 8, true);
        bench.dirt(3, 60, 61);
        return bench;
    }

    private static void cellsOf(FluxBench bench, int track, int from, int to, StringBuilder told) {
        for (int place = from; place <= to; place++) {
            for (int what = 0; what < 4; what++) {
                told.append(bench.ofCell(track, place, what));
            }
        }
    }

    /** What a bench tells now, and of what is done with it later. */
    private static String story(FluxBench bench) {
        StringBuilder told = new StringBuilder();
        told.append(bench.digest()).append(' ').append(bench.period(0, 1)).append(' ').append(bench.sure(0)).append(' ');
        cellsOf(bench, 0, 28, 35, told);
        cellsOf(bench, 3, 58, 63, told);
        cellsOf(bench, 1, 6, 8, told);
        told.append(' ').append(bench.write(0, 0)).append(' ');
        cellsOf(bench, 0, 107, 110, told);
        for (int i = 0; i < 3; i++) {
            for (int track = 0; track < 4; track += track == 1 ? 2 : 1) {
                told.append(' ').append(bench.read(track)).append(' ').append(bench.digest());
            }
        }
        cellsOf(bench, 0, 28, 35, told);
        cellsOf(bench, 3, 58, 63, told);
        told.append(' ').append(bench.mark(2)).append(' ').append(bench.copy(3, 2, false)).append(' ').append(bench.copy(0, 3, true));
        told.append(' ').append(bench.read(3)).append(' ').append(bench.digest());
        return told.toString();
    }

    private static String answerOf(Refused refused, FluxBench bench) {
        try {
            refused.call.on(bench);
        } catch (RuntimeException e) {
            return e.getClass().getName();
        }
        return "nothing";
    }

    /** Every call with a TRACK that is not there: and nothing else matters then. */
    private static void noSuchTrack(int track) {
        add(PLACE, "write to " + track, bench -> bench.write(track, 0));
        add(PLACE, "write 256 to " + track, bench -> bench.write(track, 256));
        add(PLACE, "mark on " + track, bench -> bench.mark(track));
        add(PLACE, "sector on " + track, bench -> bench.sector(track, 1, 1, 1, true));
        add(PLACE, "sector -1, 0, -1 on " + track, bench -> bench.sector(track, -1, 0, -1, true));
        add(PLACE, "weak on " + track, bench -> bench.weak(track, 0, true));
        add(PLACE, "dirt on " + track, bench -> bench.dirt(track, 0, 0));
        add(PLACE, "dirt 1 to 0 on " + track, bench -> bench.dirt(track, 1, 0));
        add(PLACE, "clean " + track, bench -> bench.clean(track));
        add(PLACE, "read " + track, bench -> bench.read(track));
        add(PLACE, "copy from " + track, bench -> bench.copy(track, 0, true));
        add(PLACE, "copy to " + track, bench -> bench.copy(0, track, true));
        add(PLACE, "copy from the one without a turn to " + track, bench -> bench.copy(2, track, false));
        add(PLACE, "copy " + track + " into itself", bench -> bench.copy(track, track, false));
        add(PLACE, "ofCell of " + track, bench -> bench.ofCell(track, 0, 0));
        add(PLACE, "ofCell 4 of " + track, bench -> bench.ofCell(track, 0, 4));
        add(PLACE, "ofTrack " + track, bench -> bench.ofTrack(track, 0));
        add(PLACE, "ofTrack 12 of " + track, bench -> bench.ofTrack(track, 12));
        add(PLACE, "vote of " + track, bench -> bench.vote(track, 0));
        add(PLACE, "turn of " + track, bench -> bench.turn(track, 0, true));
        add(PLACE, "period of " + track, bench -> bench.period(track, 0));
        add(PLACE, "ofSector of " + track, bench -> bench.ofSector(track, 0, 0));
        add(PLACE, "ofSector 9 of " + track, bench -> bench.ofSector(track, 0, 9));
        add(PLACE, "chain of " + track, bench -> bench.chain(track, 1));
        add(PLACE, "chain from 256 of " + track, bench -> bench.chain(track, 256));
        add(PLACE, "sure " + track, bench -> bench.sure(track));
        add(PLACE, "plainLong of " + track, bench -> bench.plainLong(track));
        add(PLACE, "wouldLose of " + track, bench -> bench.wouldLose(track));
        add(PLACE, "goodBy of " + track, bench -> bench.goodBy(track, 0));
        add(PLACE, "goodBy 3 of " + track, bench -> bench.goodBy(track, 3));
    }

    /** Each call with a place, TURN or SECTOR that is not there: it is named ahead of all but the TRACK. */
    private static void noSuchPlace() {
        int[] places = {-1, 107, 400, FAR, LOW};
        for (int place : places) {
            add(PLACE, "weak at " + place, bench -> bench.weak(0, place, true));
            add(PLACE, "dirt from " + place, bench -> bench.dirt(0, place, 106));
            add(PLACE, "dirt from 106 to " + place, bench -> bench.dirt(0, 106, place));
            add(PLACE, "dirt from " + place + " to 0", bench -> bench.dirt(0, place, 0));
            add(PLACE, "ofCell at " + place, bench -> bench.ofCell(0, place, 0));
            add(PLACE, "ofCell 4 at " + place, bench -> bench.ofCell(0, place, 4));
            add(PLACE, "vote at " + place, bench -> bench.vote(0, place));
            add(PLACE, "weak in an empty row at " + place, bench -> bench.weak(2, place, true));
            add(PLACE, "dirt in an empty row at " + place, bench -> bench.dirt(2, place, place));
        }
        int[] turns = {-1, 2, 3, FAR, LOW};
        for (int turn : turns) {
            add(PLACE, "turn " + turn, bench -> bench.turn(0, turn, true));
            add(PLACE, "period " + turn, bench -> bench.period(0, turn));
            add(PLACE, "ofSector of " + turn, bench -> bench.ofSector(0, turn, 0));
            add(PLACE, "ofSector 9 of " + turn, bench -> bench.ofSector(0, turn, 9));
        }
        add(PLACE, "turn 0 of one that is not read", bench -> bench.turn(3, 0, true));
        add(PLACE, "period 0 of one that is not read", bench -> bench.period(3, 0));
        add(PLACE, "vote 0 of one that is not read", bench -> bench.vote(3, 0));
        add(PLACE, "ofSector 0 of one that is not read", bench -> bench.ofSector(3, 0, 0));
    }

    /** Each number that is out of its bounds, where the state is right. */
    private static void wrongArguments() {
        int[] bytes = {-1, 256, FAR, LOW};
        for (int value : bytes) {
            add(ARGUMENT, "write " + value, bench -> bench.write(0, value));
            add(ARGUMENT, "sector number " + value, bench -> bench.sector(0, value, 1, 1, true));
            add(ARGUMENT, "chain from " + value, bench -> bench.chain(0, value));
        }
        int[] counts = {0, 5, -1, FAR, LOW};
        for (int count : counts) {
            add(ARGUMENT, "sector count " + count, bench -> bench.sector(0, 1, count, 1, true));
        }
        add(ARGUMENT, "sector data -1", bench -> bench.sector(0, 1, 1, -1, true));
        add(ARGUMENT, "sector data, the least", bench -> bench.sector(0, 1, 4, LOW, false));
        int[] speeds = {5, 12, 0, FAR, LOW};
        for (int speed : speeds) {
            add(ARGUMENT, "speed " + speed, bench -> bench.speed(speed));
        }
        add(ARGUMENT, "dirt from 31 to 30", bench -> bench.dirt(0, 31, 30));
        add(ARGUMENT, "dirt from 106 to 0", bench -> bench.dirt(0, 106, 0));
        int[] whats = {-1, 12, FAR, LOW};
        for (int what : whats) {
            add(ARGUMENT, "ofCell " + what, bench -> bench.ofCell(0, 0, what));
            add(ARGUMENT, "ofTrack " + what, bench -> bench.ofTrack(0, what));
            add(ARGUMENT, "ofSector " + what, bench -> bench.ofSector(0, 0, what));
            add(ARGUMENT, "many " + what, bench -> bench.many(what));
            add(ARGUMENT, "goodBy " + what, bench -> bench.goodBy(0, what));
        }
        add(ARGUMENT, "ofCell 4", bench -> bench.ofCell(0, 0, 4));
        add(ARGUMENT, "ofSector 9", bench -> bench.ofSector(0, 0, 9));
        add(ARGUMENT, "many 7", bench -> bench.many(7));
        add(ARGUMENT, "goodBy 3", bench -> bench.goodBy(0, 3));
        add(ARGUMENT, "copy into itself", bench -> bench.copy(0, 0, true));
    }

    /** Each number that is out of its bounds, where the state is wrong as well: the number is named first. */
    private static void wrongArgumentsInWrongStates() {
        int[] codes = {-1, 3, FAR, LOW};
        for (int code : codes) {
            add(ARGUMENT, "a fifth track of code " + code, bench -> bench.track(code));
        }
        add(ARGUMENT, "write 256 to a full row", bench -> bench.write(1, 256));
        add(ARGUMENT, "sector number -1 in a full row", bench -> bench.sector(1, -1, 1, 1, true));
        add(ARGUMENT, "sector count 0 in a full row", bench -> bench.sector(1, 1, 0, 1, true));
        add(ARGUMENT, "sector count 5 in a full row", bench -> bench.sector(1, 1, 5, 1, true));
        add(ARGUMENT, "sector data -1 in a full row", bench -> bench.sector(1, 1, 1, -1, true));
        add(ARGUMENT, "copy into itself without a turn", bench -> bench.copy(2, 2, true));
        add(ARGUMENT, "copy into itself without a turn, plain", bench -> bench.copy(3, 3, false));
    }

    private static void wrongStates() {
        for (int code = 0; code <= 2; code++) {
            int any = code;
            add(STATE, "a fifth track of code " + code, bench -> bench.track(any));
        }
        add(STATE, "write to a full row", bench -> bench.write(1, 0));
        add(STATE, "mark in a full row", bench -> bench.mark(1));
        add(STATE, "sector in a full row", bench -> bench.sector(1, 1, 1, 1, true));
        add(STATE, "read an empty row", bench -> bench.read(2));
        add(STATE, "copy without a turn", bench -> bench.copy(3, 0, true));
        add(STATE, "copy without a turn, plain", bench -> bench.copy(3, 0, false));
        add(STATE, "copy an empty one", bench -> bench.copy(2, 0, true));
    }

    private static void eachIsRefusedAndChangesNothing() {
        String due = story(rich());
        for (Refused refused : ALL) {
            FluxBench bench = rich();
            Check.sameText(refused.name, answerOf(refused, bench), refused.due.getName());
            Check.sameText("the story behind " + refused.name, story(bench), due);
        }
    }

    /** A hundred of them on one bench, one behind the other, within its 512 calls. */
    private static void manyTogetherChangeNothing() {
        String due = story(rich());
        for (int from = 0; from < ALL.size(); from += 100) {
            FluxBench bench = rich();
            for (Refused refused : ALL.subList(from, Math.min(from + 100, ALL.size()))) {
                Check.sameText(refused.name + " among others", answerOf(refused, bench), refused.due.getName());
            }
            Check.sameText("the story behind those from " + from, story(bench), due);
        }
    }

    public static void main(String[] args) {
        int[] tracks = {-1, 4, FAR, LOW};
        for (int track : tracks) {
            noSuchTrack(track);
        }
        noSuchPlace();
        wrongArguments();
        wrongArgumentsInWrongStates();
        wrongStates();
        eachIsRefusedAndChangesNothing();
        manyTogetherChangeNothing();
        Check.end("RefusalsTest");
    }
}
