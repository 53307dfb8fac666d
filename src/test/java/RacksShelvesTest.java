/** Promises 29 to 38: racks and shelves. */
public final class RacksShelvesTest {
    private static final int MIN = Integer.MIN_VALUE, MAX = Integer.MAX_VALUE;
    private static final int BYTES = 0, SHORTS = 1, CHARS = 2, INTS = 3;
    private static final Due due = new Due("RacksShelvesTest");

    public static void main(String[] args) {
        rack();
        hold();
        racksTakeTheirKind();
        held();
        slide();
        shelf();
        layOfVoice();
        layOfRack();
        layIsRefused();
        item();
        lift();
        copy();
        play();
        playEnds();
        due.finish();
    }

    /** Voice 0 has one event of each kind, its number is its kind. */
    private static StaveScore withKinds() {
        StaveScore s = new StaveScore();
        s.part(0);
        for (int kind = 0; kind <= 4; kind++) {
            s.put(0, kind, kind, 60 + kind, 2, 0);
        }
        return s;
    }

    private static void rack() {
        StaveScore s = withKinds();
        int[][] bad = {{-1, 0, 1}, {4, 0, 1}, {0, -1, 1}, {0, 6, 1}, {0, 0, 21}, {0, 0, MAX}, {4, 0, -1}, {0, 6, -1}};
        for (int[] b : bad) {
            due.refused(s, "rack " + java.util.Arrays.toString(b), s.rack(b[0], b[1], b[2]), StaveScore.BAD);
        }
        due.is("no failure", s.failures(4), 0);
        due.is("rack", s.rack(3, 5, 20), 1);
        due.is("hold", s.hold(3, 19, 0), 1);
        due.refused(s, "below 0", s.rack(3, 5, -1), StaveScore.SIZE);
        due.refused(s, "below 0", s.rack(3, 5, MIN), StaveScore.SIZE);
        due.is("failures", s.failures(4), 2);
        due.is("it stays", s.held(3, 19), 0);
        due.is("a new row", s.rack(3, 5, 20), 1);
        due.is("nothing in it", s.held(3, 19), StaveScore.NULL);
        due.is("a row of none", s.rack(0, 0, 0), 1);
        due.is("no place", s.hold(0, 0, 0), StaveScore.INDEX);
    }

    private static void hold() {
        StaveScore s = withKinds();
        due.refused(s, "no row", s.hold(0, 0, 0), StaveScore.NULL);
        s.rack(0, 0, 2);
        due.refused(s, "no rack", s.hold(4, 0, 0), StaveScore.BAD);
        due.refused(s, "no rack", s.hold(-1, 0, 0), StaveScore.BAD);
        due.refused(s, "no event", s.hold(0, 0, 5), StaveScore.BAD);
        due.refused(s, "no event", s.hold(0, 0, -2), StaveScore.BAD);
        due.refused(s, "no event, no row", s.hold(1, 0, 5), StaveScore.BAD);
        due.refused(s, "no place", s.hold(0, 2, 0), StaveScore.INDEX);
        due.refused(s, "no place, not taken", s.hold(0, -1, 3), StaveScore.INDEX);
        due.refused(s, "not taken", s.hold(0, 1, 3), StaveScore.STORE);
        due.is("taken", s.hold(0, 1, 0), 1);
        due.is("status", s.status(), 0);
        due.is("held", s.held(0, 1), 0);
        due.refused(s, "not taken", s.hold(0, 1, 4), StaveScore.STORE);
        due.is("still held", s.held(0, 1), 0);
        due.is("none", s.hold(0, 1, StaveScore.NONE), 1);
        due.is("none is held", s.held(0, 1), StaveScore.NULL);
        due.is("null failures", s.failures(0), 2);
        due.is("index failures", s.failures(1), 2);
        due.is("store failures", s.failures(3), 2);
    }

    private static void racksTakeTheirKind() {
        StaveScore s = withKinds();
        String[] takes = {"11100", "01000", "00100", "00011", "00001", "11111"};
        for (int kind = 0; kind <= 5; kind++) {
            s.rack(1, kind, 1);
            for (int event = 0; event <= 4; event++) {
                int want = takes[kind].charAt(event) == '1' ? 1 : StaveScore.STORE;
                due.is("rack of " + kind + " takes " + event, s.hold(1, 0, event), want);
            }
        }
    }

    private static void held() {
        StaveScore s = withKinds();
        due.refused(s, "no rack", s.held(4, 0), StaveScore.BAD);
        due.refused(s, "no rack", s.held(-1, 0), StaveScore.BAD);
        due.refused(s, "no row", s.held(2, 0), StaveScore.NULL);
        s.rack(2, 5, 2);
        due.refused(s, "no place", s.held(2, 2), StaveScore.INDEX);
        due.refused(s, "no place", s.held(2, -1), StaveScore.INDEX);
        due.refused(s, "none there", s.held(2, 0), StaveScore.NULL);
        s.hold(2, 0, 4);
        due.is("held", s.held(2, 0), 4);
        due.is("status", s.status(), 0);
        due.is("null failures", s.failures(0), 2);
        due.is("index failures", s.failures(1), 2);
    }

    private static void racks(StaveScore s, String call, int... want) {
        for (int i = 0; i < want.length; i++) {
            due.is(call + ", held(0, " + i + ")", s.held(0, i), want[i]);
        }
    }

    private static void slide() {
        StaveScore s = withKinds();
        due.refused(s, "no rack", s.slide(4, 0, 0, 0), StaveScore.BAD);
        due.refused(s, "no row", s.slide(0, 0, 0, -1), StaveScore.NULL);
        s.rack(0, 5, 5);
        for (int i = 0; i < 4; i++) {
            s.hold(0, i, i);
        }
        due.is("up", s.slide(0, 0, 1, 4), 4);
        due.is("status", s.status(), 0);
        racks(s, "as they were", 0, 0, 1, 2, 3);
        due.is("down", s.slide(0, 2, 0, 3), 3);
        racks(s, "as they were", 1, 2, 3, 2, 3);
        s.hold(0, 0, StaveScore.NONE);
        due.is("an empty place, too", s.slide(0, 0, 4, 1), 1);
        racks(s, "an empty place", StaveScore.NULL, 2, 3, 2, StaveScore.NULL);
        due.is("none", s.slide(0, 5, 5, 0), 0);
        int failures = s.failures(1);
        int[][] bad = {{0, 1, 5}, {1, 0, 5}, {0, 0, 6}, {-1, 0, 1}, {0, -1, 1}, {0, 0, -1}, {5, 0, 1}, {0, 5, 1},
            {MAX, 0, MAX}, {0, MAX, 2}, {MIN, MIN, MIN}, {1, 1, MAX}};
        for (int[] b : bad) {
            String call = "slide " + java.util.Arrays.toString(b);
            due.refused(s, call, s.slide(0, b[0], b[1], b[2]), StaveScore.INDEX);
        }
        due.is("index failures", s.failures(1), failures + bad.length);
        racks(s, "nothing has changed", StaveScore.NULL, 2, 3, 2, StaveScore.NULL);
    }

    private static void shelf() {
        StaveScore s = new StaveScore();
        int[][] bad = {{-1, 0, 1}, {4, 0, 1}, {0, -1, 1}, {0, 4, 1}, {0, 0, 61}, {0, 0, MAX}, {0, 4, -1}};
        for (int[] b : bad) {
            due.refused(s, "shelf " + java.util.Arrays.toString(b), s.shelf(b[0], b[1], b[2]), StaveScore.BAD);
        }
        for (int kind = BYTES; kind <= INTS; kind++) {
            due.is("shelf", s.shelf(kind, kind, 60), 1);
            due.is("0 each", s.item(kind, 0), 0);
            due.is("0 each", s.item(kind, 59), 0);
        }
        s.lift(3, 59, 7);
        due.refused(s, "below 0", s.shelf(3, 0, -1), StaveScore.SIZE);
        due.is("failures", s.failures(4), 1);
        due.is("it stays", s.item(3, 59), 7);
        due.is("a new row", s.shelf(3, 0, 60), 1);
        due.is("0 each", s.item(3, 59), 0);
        due.is("a row of none", s.shelf(3, 0, 0), 1);
        due.is("no pitch", s.item(3, 0), -2002);
    }

    private static void layOfVoice() {
        StaveScore s = withKinds();
        s.chord(1, 99);
        s.shelf(0, BYTES, 5);
        due.refused(s, "up to the rest", s.lay(0, false, 0, 1), 3, StaveScore.CAST);
        int[] want = {0, 60, 61, 62, 0};
        for (int i = 0; i < want.length; i++) {
            due.is("item " + i, s.item(0, i), want[i]);
        }
        due.refused(s, "up to the shelf's end", s.lay(0, false, 0, 3), 2, StaveScore.INDEX);
        due.is("laid", s.item(0, 4), 61);
        int[] none = {-1, 5, MIN, MAX};
        for (int place : none) {
            due.refused(s, "no place " + place, s.lay(0, false, 0, place), 0, StaveScore.INDEX);
        }
        due.refused(s, "the shelf has no row", s.lay(0, false, 1, 0), 0, StaveScore.NULL);
        due.refused(s, "an empty voice", s.lay(1, false, 1, MIN), 0, 0);
        s.drop(0);
        s.drop(1);
        s.drop(2);
        due.refused(s, "a rest ahead of no row", s.lay(0, false, 1, 0), 0, StaveScore.CAST);
        s.drop(3);
        s.drop(4);
        s.put(0, 0, 0, 127, 2, 0);
        due.refused(s, "all", s.lay(0, false, 0, 0), 1, 0);
        due.is("laid", s.item(0, 0), 127);
        due.is("null failures", s.failures(0), 1);
        due.is("index failures", s.failures(1), 5);
        due.is("cast failures", s.failures(2), 2);
    }

    private static void layOfRack() {
        StaveScore s = withKinds();
        s.shelf(2, CHARS, 3);
        due.refused(s, "the rack has no row", s.lay(3, true, 2, 0), 0, StaveScore.NULL);
        s.rack(3, 5, 0);
        due.refused(s, "none", s.lay(3, true, 0, 0), 0, 0);
        s.rack(3, 5, 2);
        due.refused(s, "an empty place", s.lay(3, true, 2, 0), 0, StaveScore.NULL);
        due.refused(s, "an empty place, no place", s.lay(3, true, 2, 9), 0, StaveScore.NULL);
        s.hold(3, 0, 2);
        due.refused(s, "up to the empty place", s.lay(3, true, 2, 1), 1, StaveScore.NULL);
        due.is("laid", s.item(2, 1), 62);
        s.hold(3, 1, 3);
        due.refused(s, "up to the rest", s.lay(3, true, 2, 2), 1, StaveScore.CAST);
        s.hold(3, 1, 0);
        due.refused(s, "no row", s.lay(3, true, 0, 0), 0, StaveScore.NULL);
        due.refused(s, "up to the end", s.lay(3, true, 2, 2), 1, StaveScore.INDEX);
        due.refused(s, "all", s.lay(3, true, 2, 0), 2, 0);
        due.is("laid", s.item(2, 1), 60);
        due.is("null failures", s.failures(0), 5);
    }

    private static void layIsRefused() {
        StaveScore s = withKinds();
        due.refused(s, "no voice", s.lay(3, false, 0, 0), StaveScore.BAD);
        due.refused(s, "no voice", s.lay(-1, false, 0, 0), StaveScore.BAD);
        due.refused(s, "no rack", s.lay(4, true, 0, 0), StaveScore.BAD);
        due.refused(s, "no rack", s.lay(-1, true, 0, 0), StaveScore.BAD);
        due.refused(s, "no shelf", s.lay(0, false, 4, 0), StaveScore.BAD);
        due.refused(s, "no shelf", s.lay(0, true, -1, 0), StaveScore.BAD);
        due.is("no failures", s.failures(0), 0);
    }

    private static void item() {
        StaveScore s = new StaveScore();
        due.refused(s, "no shelf", s.item(4, 0), -2000, StaveScore.BAD);
        due.refused(s, "no shelf", s.item(-1, 0), -2000, StaveScore.BAD);
        due.refused(s, "no row", s.item(0, 0), -2001, StaveScore.NULL);
        s.shelf(0, INTS, 2);
        due.refused(s, "no place", s.item(0, 2), -2002, StaveScore.INDEX);
        due.refused(s, "no place", s.item(0, -1), -2002, StaveScore.INDEX);
        due.refused(s, "item", s.item(0, 1), 0, 0);
        due.is("null failures", s.failures(0), 1);
        due.is("index failures", s.failures(1), 2);
    }

    private static void lift() {
        StaveScore s = new StaveScore();
        due.refused(s, "no shelf", s.lift(4, 0, 1), StaveScore.BAD);
        due.refused(s, "no row", s.lift(0, 0, 1), StaveScore.NULL);
        int[] values = {200, -1, 40000, 65536 + 300, MIN, MAX};
        int[][] want = {
            {-56, -1, 64, 44, 0, -1}, {200, -1, -25536, 300, 0, -1}, {200, 65535, 40000, 300, 0, 65535}, values};
        for (int kind = BYTES; kind <= INTS; kind++) {
            s.shelf(kind, kind, 1);
            for (int i = 0; i < values.length; i++) {
                due.is("lift", s.lift(kind, 0, values[i]), 1);
                due.is("the lowest bits of " + values[i] + " in " + kind, s.item(kind, 0), want[kind][i]);
            }
        }
        due.refused(s, "no place", s.lift(0, 1, 1), StaveScore.INDEX);
        due.refused(s, "no place", s.lift(0, -1, 1), StaveScore.INDEX);
        due.is("null failures", s.failures(0), 1);
        due.is("index failures", s.failures(1), 2);
    }

    private static void copy() {
        StaveScore s = new StaveScore();
        due.refused(s, "no shelf", s.copy(4, 0, 0, 0, 0), StaveScore.BAD);
        due.refused(s, "no shelf", s.copy(0, 0, -1, 0, 0), StaveScore.BAD);
        s.shelf(0, SHORTS, 4);
        s.shelf(1, CHARS, 4);
        s.shelf(2, SHORTS, 2);
        due.refused(s, "the first has no row", s.copy(3, 0, 0, 0, 1), StaveScore.NULL);
        due.refused(s, "the other has no row", s.copy(0, 0, 3, 0, 1), StaveScore.NULL);
        due.refused(s, "of another kind", s.copy(0, 9, 1, 0, -1), StaveScore.CAST);
        for (int i = 0; i < 4; i++) {
            s.lift(0, i, i + 1);
        }
        due.is("to another one", s.copy(0, 1, 2, 0, 2), 2);
        due.is("status", s.status(), 0);
        due.is("copied", s.item(2, 1), 3);
        due.is("to itself", s.copy(0, 0, 0, 1, 3), 3);
        int[] want = {1, 1, 2, 3};
        for (int i = 0; i < 4; i++) {
            due.is("as they were", s.item(0, i), want[i]);
        }
        due.is("none", s.copy(0, 4, 2, 2, 0), 0);
        int[][] bad = {{0, 0, 3}, {3, 0, 2}, {0, 1, 2}, {-1, 0, 1}, {0, -1, 1}, {0, 0, -1}, {MAX, 0, MAX}, {0, MAX, 1}};
        for (int[] b : bad) {
            String call = "copy " + java.util.Arrays.toString(b);
            due.refused(s, call, s.copy(0, b[0], 2, b[1], b[2]), StaveScore.INDEX);
        }
        due.is("null failures", s.failures(0), 2);
        due.is("cast failures", s.failures(2), 1);
        due.is("index failures", s.failures(1), bad.length);
    }

    private static void play() {
        StaveScore s = withKinds();
        s.chord(1, 65);
        s.put(0, 5, 0, 10, 2, 0);
        s.shelf(0, SHORTS, 5);
        int[] pitches = {0, 123, 64, 127};
        for (int i = 0; i < pitches.length; i++) {
            s.lift(0, i, pitches[i]);
        }
        due.refused(s, "play", s.play(0, 0), 4, 0);
        due.is("a note", s.pitch(0, 0), 0);
        due.is("a chord", s.pitch(1, 0), 123);
        due.is("a chord", s.pitch(1, 1), 127);
        due.is("a grace", s.pitch(2, 0), 64);
        due.is("behind the rests", s.pitch(5, 0), 127);
        due.refused(s, "no voice", s.play(0, 3), StaveScore.BAD);
        due.refused(s, "no voice", s.play(0, -1), StaveScore.BAD);
        due.refused(s, "no shelf", s.play(4, 0), StaveScore.BAD);
        due.refused(s, "no shelf", s.play(-1, 0), StaveScore.BAD);
        due.refused(s, "a voice without notes", s.play(0, 1), 0, 0);
    }

    private static void playEnds() {
        StaveScore s = withKinds();
        s.chord(1, 65);
        due.refused(s, "no row", s.play(0, 0), 0, StaveScore.NULL);
        s.shelf(0, INTS, 2);
        s.lift(0, 0, 50);
        s.lift(0, 1, 51);
        due.refused(s, "the shelf has no more", s.play(0, 0), 2, StaveScore.INDEX);
        due.is("done", s.pitch(1, 1), 55);
        due.is("not done", s.pitch(2, 0), 62);
        int[] bad = {-1, 124, MIN, MAX};
        for (int pitch : bad) {
            s.lift(0, 0, 40);
            s.lift(0, 1, pitch);
            due.refused(s, "a pitch would be none " + pitch, s.play(0, 0), 1, StaveScore.INDEX);
            due.is("done", s.pitch(0, 0), 40);
            due.is("not done", s.pitch(1, 0), 51);
        }
        due.is("null failures", s.failures(0), 1);
        due.is("index failures", s.failures(1), 5);
    }
}
