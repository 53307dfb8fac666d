/** Promises 1 to 17: a new object, parts, bars, events. */
public final class PartsBarsEventsTest {
    private static final int MIN = Integer.MIN_VALUE, MAX = Integer.MAX_VALUE;
    private static final Due due = new Due("PartsBarsEventsTest");

    public static void main(String[] args) {
        newObject();
        part();
        bar();
        put();
        putIsRefused();
        putWhereItIsFull();
        drop();
        chord();
        pitch();
        heard();
        heardUnderOctaves();
        shift();
        transpose();
        tie();
        value();
        at();
        time();
        length();
        event();
        asks();
        due.finish();
    }

    private static void newObject() {
        StaveScore s = new StaveScore();
        for (int what = 0; what <= 6; what++) {
            due.is("new count " + what, s.count(what), 0);
        }
        for (int kind = 0; kind <= 4; kind++) {
            due.is("new failures " + kind, s.failures(kind), 0);
        }
        due.is("new status", s.status(), 0);
        due.is("new trace", s.trace(), 0);
        due.is("new walked", s.walked(0), StaveScore.NONE);
        due.is("new finding", s.finding(0, 0), StaveScore.NONE);
        due.is("new walk", s.walk(), 0);
        due.is("new check", s.check(), 0);
        due.is("new event", s.event(0, 0), StaveScore.BAD);
        due.is("new tupletAt", s.tupletAt(0, 0), StaveScore.BAD);
        due.is("new lineAt", s.lineAt(0, 0), StaveScore.BAD);
        due.is("new held", s.held(0, 0), StaveScore.NULL);
        due.is("new item", s.item(0, 0), -2001);
    }

    private static void part() {
        StaveScore s = new StaveScore();
        due.refused(s, "part(-1)", s.part(-1), StaveScore.BAD);
        due.refused(s, "part(6)", s.part(6), StaveScore.BAD);
        for (int kind = 0; kind <= 5; kind++) {
            due.is("part", s.part(kind), kind);
            due.is("part status", s.status(), 0);
        }
        due.refused(s, "seventh part", s.part(0), StaveScore.FULL);
        due.refused(s, "seventh part, bad", s.part(MAX), StaveScore.BAD);
        due.is("parts", s.count(0), 6);
        due.is("last voice", s.length(17, 0), 0);
        due.is("no voice", s.length(18, 0), StaveScore.BAD);
    }

    private static void bar() {
        StaveScore s = new StaveScore();
        int[] bad = {-1, 0, 3, 6, 12, 33, 64, MIN, MAX};
        for (int down : bad) {
            due.refused(s, "bar(1, " + down + ")", s.bar(1, down), StaveScore.BAD);
        }
        due.refused(s, "bar(0, 1)", s.bar(0, 1), StaveScore.BAD);
        due.refused(s, "bar(65, 1)", s.bar(65, 1), StaveScore.BAD);
        int[] good = {1, 2, 4, 8, 16, 32};
        for (int i = 0; i < 24; i++) {
            due.is("bar", s.bar(i == 0 ? 64 : 1, good[i % 6]), i);
        }
        due.refused(s, "a bar more", s.bar(1, 1), StaveScore.FULL);
        due.refused(s, "a bad bar more", s.bar(1, 3), StaveScore.BAD);
        due.is("bars", s.count(1), 24);
    }

    private static StaveScore plain() {
        StaveScore s = new StaveScore();
        s.part(0);
        return s;
    }

    private static void put() {
        StaveScore s = plain();
        due.is("put", s.put(2, 0, 0, 0, 0, 0), 0);
        due.is("put ahead", s.put(2, 0, 1, 127, 5, 2), 1);
        due.is("put between", s.put(2, 1, 2, 64, 1, 1), 2);
        due.is("put rest", s.put(2, 3, 3, 999, 2, 0), 3);
        due.is("put breath", s.put(2, 4, 4, -999, 2, 0), 4);
        int[] row = {1, 2, 0, 3, 4};
        for (int place = 0; place < row.length; place++) {
            due.is("row " + place, s.event(2, place), row[place]);
            due.is("place", s.at(row[place], 1), place);
            due.is("tied", s.at(row[place], 4), 0);
        }
        due.is("events", s.count(2), 5);
        due.is("a chord has one pitch", s.at(1, 3), 1);
        due.is("a rest has none", s.at(3, 3), 0);
    }

    private static void putIsRefused() {
        StaveScore s = plain();
        int[][] bad = {
            {-1, 0, 0, 60, 0, 0}, {3, 0, 0, 60, 0, 0}, {0, -1, 0, 60, 0, 0}, {0, 1, 0, 60, 0, 0},
            {0, 0, -1, 60, 0, 0}, {0, 0, 5, 60, 0, 0}, {0, 0, 0, -1, 0, 0}, {0, 0, 0, 128, 0, 0},
            {0, 0, 1, -1, 0, 0}, {0, 0, 1, 128, 0, 0}, {0, 0, 2, -1, 0, 0}, {0, 0, 2, 128, 0, 0},
            {0, 0, 0, 60, -1, 0}, {0, 0, 0, 60, 6, 0}, {0, 0, 0, 60, 0, -1}, {0, 0, 0, 60, 0, 3},
            {MIN, MIN, MIN, MIN, MIN, MIN}, {MAX, MAX, MAX, MAX, MAX, MAX}};
        for (int[] b : bad) {
            due.refused(s, "put " + java.util.Arrays.toString(b), s.put(b[0], b[1], b[2], b[3], b[4], b[5]), StaveScore.BAD);
        }
        due.is("nothing came", s.count(3), 0);
    }

    private static void putWhereItIsFull() {
        StaveScore s = plain();
        s.part(0);
        for (int i = 0; i < 40; i++) {
            due.is("put into 0", s.put(0, i, 3, 0, 2, 0), i);
        }
        due.refused(s, "40 there", s.put(0, 40, 3, 0, 2, 0), StaveScore.FULL);
        due.refused(s, "40 there, bad", s.put(0, 41, 3, 0, 2, 0), StaveScore.BAD);
        due.is("drop", s.drop(0), 0);
        due.is("again", s.put(0, 39, 3, 0, 2, 0), 40);
        for (int i = 41; i < 150; i++) {
            due.is("put", s.put(1 + i % 4, 0, 3, 0, 2, 0), i);
        }
        due.refused(s, "150 ever", s.put(5, 0, 3, 0, 2, 0), StaveScore.FULL);
        s.drop(149);
        due.refused(s, "no number comes again", s.put(5, 0, 3, 0, 2, 0), StaveScore.FULL);
        due.is("events there", s.count(2), 148);
        due.is("events ever", s.count(3), 150);
    }

    private static void drop() {
        StaveScore s = plain();
        for (int i = 0; i < 4; i++) {
            s.put(0, i, 0, 60 + i, 2, 0);
        }
        s.rack(0, 5, 3);
        s.hold(0, 0, 1);
        s.hold(0, 1, 2);
        s.hold(0, 2, 1);
        s.tuplet(0, 1, 2, 3, 2, 2);
        s.tuplet(0, 1, 1, 5, 4, 2);
        s.line(0, 1, 2);
        s.line(1, 2, 1);
        s.line(2, 1, 1);
        due.refused(s, "drop(-1)", s.drop(-1), StaveScore.BAD);
        due.refused(s, "drop(4)", s.drop(4), StaveScore.BAD);
        due.is("drop", s.drop(1), 1);
        due.is("drop status", s.status(), 0);
        due.refused(s, "drop it again", s.drop(1), StaveScore.BAD);
        due.is("it is gone", s.at(1, 0), StaveScore.BAD);
        due.is("the next one", s.event(0, 1), 2);
        due.is("its place", s.at(3, 1), 2);
        due.is("it begins", s.time(2, 0), 1);
        due.is("left the rack", s.held(0, 0), StaveScore.NULL);
        due.is("left all places", s.held(0, 2), StaveScore.NULL);
        due.is("others stay", s.held(0, 1), 2);
        due.is("tuplet goes on", s.tupletAt(0, 2), 1);
        due.is("from the next one", s.tupletAt(0, 1), 1);
        due.is("a tuplet of none is gone", s.tupletAt(1, 2), StaveScore.BAD);
        due.is("line gone", s.lineAt(0, 0), StaveScore.BAD);
        due.is("line ends nowhere", s.lineAt(1, 2), StaveScore.NONE);
        due.is("line of one gone", s.lineAt(2, 0), StaveScore.BAD);
        due.is("tuplets", s.count(4), 1);
        due.is("lines", s.count(5), 1);
        due.is("drop ahead", s.drop(0), 0);
        due.is("tuplet is one ahead", s.tupletAt(0, 1), 0);
        due.is("drop last", s.drop(3), 1);
        due.is("tuplet as it was", s.tupletAt(0, 2), 1);
    }

    private static void chord() {
        StaveScore s = plain();
        s.put(0, 0, 1, 60, 2, 0);
        s.put(0, 1, 0, 60, 2, 0);
        s.put(0, 2, 2, 60, 2, 0);
        s.put(0, 3, 3, 0, 2, 0);
        due.refused(s, "no event", s.chord(4, 61), StaveScore.BAD);
        due.refused(s, "no event", s.chord(-1, 61), StaveScore.BAD);
        due.refused(s, "no pitch", s.chord(0, 128), StaveScore.BAD);
        due.refused(s, "no pitch", s.chord(0, -1), StaveScore.BAD);
        due.refused(s, "a note", s.chord(1, 61), StaveScore.CAST);
        due.refused(s, "a note, not above", s.chord(1, 60), StaveScore.CAST);
        due.refused(s, "a grace", s.chord(2, 61), StaveScore.CAST);
        due.refused(s, "a rest", s.chord(3, 61), StaveScore.CAST);
        due.is("casts", s.failures(2), 4);
        due.refused(s, "not above", s.chord(0, 60), StaveScore.STATE);
        due.refused(s, "below", s.chord(0, 59), StaveScore.STATE);
        for (int i = 1; i < 6; i++) {
            due.is("chord", s.chord(0, 60 + i), i + 1);
        }
        due.is("pitches", s.at(0, 3), 6);
        due.refused(s, "six are there", s.chord(0, 66), StaveScore.FULL);
        due.refused(s, "six are there, not above", s.chord(0, 65), StaveScore.STATE);
        due.is("the last", s.pitch(0, 5), 65);
    }

    private static void pitch() {
        StaveScore s = plain();
        s.put(0, 0, 1, 60, 2, 0);
        s.chord(0, 64);
        s.put(0, 1, 4, 60, 2, 0);
        s.put(0, 2, 2, 33, 2, 0);
        due.is("lowest", s.pitch(0, 0), 60);
        due.is("second", s.pitch(0, 1), 64);
        due.is("grace", s.pitch(2, 0), 33);
        due.refused(s, "third", s.pitch(0, 2), StaveScore.NONE, 0);
        due.refused(s, "below", s.pitch(0, -1), StaveScore.NONE, 0);
        due.refused(s, "far", s.pitch(2, MAX), StaveScore.NONE, 0);
        due.refused(s, "no event", s.pitch(3, 0), StaveScore.BAD);
        due.refused(s, "a breath", s.pitch(1, 0), StaveScore.CAST);
        due.is("casts", s.failures(2), 1);
    }

    private static void heard() {
        StaveScore s = new StaveScore();
        int[] heard = {60, 48, 60, 53, 41, 35};
        long[] trace = {1, 11, 1, 101, 1101, 10000};
        for (int kind = 0; kind <= 5; kind++) {
            s.part(kind);
            s.put(3 * kind + 1, 0, 0, 60, 2, 0);
            long before = s.trace();
            due.is("heard by " + kind, s.heard(kind, 0), heard[kind]);
            due.is("trace of " + kind, s.trace() - before, trace[kind]);
        }
        long before = s.trace();
        due.refused(s, "no such pitch", s.heard(0, 1), -1000, 0);
        due.refused(s, "no such pitch", s.heard(0, -1), -1000, 0);
        due.refused(s, "no event", s.heard(6, 0), -2000, StaveScore.BAD);
        s.put(0, 0, 3, 0, 2, 0);
        due.refused(s, "a rest", s.heard(6, 0), -2001, StaveScore.CAST);
        due.is("casts", s.failures(2), 1);
        due.is("nothing was asked", s.trace(), before);
    }

    private static void heardUnderOctaves() {
        StaveScore s = new StaveScore();
        s.part(0);
        s.part(5);
        for (int i = 0; i < 4; i++) {
            s.put(0, i, 0, 60, 2, 0);
        }
        s.put(3, 0, 0, 60, 2, 0);
        s.put(1, 0, 0, 60, 2, 0);
        due.is("octave", s.line(2, 1, 2), 0);
        due.is("ahead", s.heard(0, 0), 60);
        due.is("first", s.heard(1, 0), 72);
        due.is("last", s.heard(2, 0), 72);
        due.is("behind", s.heard(3, 0), 60);
        s.line(2, 2, 2);
        due.is("two", s.heard(2, 0), 84);
        s.line(2, 3, 1);
        s.line(2, 0, 5);
        s.line(2, 0, StaveScore.NONE);
        s.line(0, 0, 3);
        s.line(1, 0, 3);
        s.line(3, 0, 3);
        due.is("back, across, open and other lines do nothing", s.heard(2, 0), 84);
        due.is("another voice", s.heard(5, 0), 60);
        s.line(2, 4, 4);
        due.is("a drum, too", s.heard(4, 0), 47);
        s.end(0, 3);
        due.is("ends later", s.heard(3, 0), 72);
        s.put(0, 2, 0, 50, 2, 0);
        due.is("put into it", s.heard(6, 0), 62);
        s.drop(1);
        due.is("the line is gone", s.heard(6, 0), 50);
        due.is("as written", s.pitch(2, 0), 60);
    }

    private static void shift() {
        StaveScore s = plain();
        s.put(0, 0, 1, 60, 2, 0);
        s.chord(0, 64);
        s.put(0, 1, 3, 0, 2, 0);
        due.is("up", s.shift(0, 63), 2);
        due.is("lowest", s.pitch(0, 0), 123);
        due.is("highest", s.pitch(0, 1), 127);
        due.refused(s, "above 127", s.shift(0, 1), StaveScore.INDEX);
        due.is("down", s.shift(0, -123), 2);
        due.refused(s, "below 0", s.shift(0, -1), StaveScore.INDEX);
        due.refused(s, "far", s.shift(0, MAX), StaveScore.INDEX);
        due.refused(s, "far", s.shift(0, MIN), StaveScore.INDEX);
        due.is("it stays", s.pitch(0, 0), 0);
        due.is("by nothing", s.shift(0, 0), 2);
        due.refused(s, "a rest", s.shift(1, 1), StaveScore.CAST);
        due.refused(s, "no event", s.shift(2, 1), StaveScore.BAD);
        due.is("index failures", s.failures(1), 4);
        due.is("cast failures", s.failures(2), 1);
    }

    private static void transpose() {
        StaveScore s = plain();
        s.put(0, 0, 0, 60, 2, 0);
        s.put(0, 1, 3, 0, 2, 0);
        s.put(0, 2, 2, 61, 2, 0);
        s.put(0, 3, 1, 100, 2, 0);
        s.chord(3, 120);
        s.put(0, 4, 0, 62, 2, 0);
        due.is("all", s.transpose(0, 7), 4);
        due.is("no failure", s.failures(1), 0);
        due.is("chord", s.pitch(3, 1), 127);
        due.refused(s, "up to the chord", s.transpose(0, 1), 2, StaveScore.INDEX);
        due.is("one failure", s.failures(1), 1);
        due.is("stays shifted", s.pitch(0, 0), 68);
        due.is("the chord as it was", s.pitch(3, 0), 107);
        due.is("those behind as they were", s.pitch(4, 0), 69);
        due.refused(s, "none", s.transpose(0, MIN), 0, StaveScore.INDEX);
        due.refused(s, "an empty voice", s.transpose(1, MAX), 0, 0);
        due.refused(s, "no voice", s.transpose(3, 1), StaveScore.BAD);
        due.refused(s, "no voice", s.transpose(-1, 1), StaveScore.BAD);
    }

    private static void tie() {
        StaveScore s = plain();
        for (int kind = 0; kind <= 4; kind++) {
            s.put(0, kind, kind, 60, 2, 0);
        }
        for (int kind = 0; kind <= 2; kind++) {
            due.is("it was not", s.tie(kind, true), 0);
            due.is("it is", s.at(kind, 4), 1);
            due.is("it was", s.tie(kind, true), 1);
            due.is("it was", s.tie(kind, false), 1);
            due.is("it is not", s.at(kind, 4), 0);
        }
        due.refused(s, "a rest", s.tie(3, true), StaveScore.CAST);
        due.refused(s, "a breath", s.tie(4, false), StaveScore.CAST);
        due.refused(s, "no event", s.tie(5, true), StaveScore.BAD);
        due.is("casts", s.failures(2), 2);
    }

    private static void value() {
        StaveScore s = plain();
        s.put(0, 0, 3, 0, 2, 0);
        s.put(0, 1, 0, 60, 2, 0);
        due.is("value", s.value(0, 5, 2), 1);
        due.is("its value", s.at(0, 7), 5);
        due.is("its dots", s.at(0, 8), 2);
        due.is("the next begins", s.time(1, 0), 7);
        due.is("the next begins", s.time(1, 1), 128);
        int[][] bad = {{2, 0, 0}, {-1, 0, 0}, {0, -1, 0}, {0, 6, 0}, {0, 0, -1}, {0, 0, 3}};
        for (int[] b : bad) {
            due.refused(s, "value " + java.util.Arrays.toString(b), s.value(b[0], b[1], b[2]), StaveScore.BAD);
        }
        due.is("as it was", s.at(0, 7), 5);
    }

    private static void at() {
        StaveScore s = plain();
        s.part(0);
        s.bar(1, 4);
        s.bar(1, 2);
        s.put(4, 0, 3, 0, 2, 0);
        s.put(4, 1, 1, 60, 1, 1);
        s.put(4, 2, 2, 60, 3, 2);
        s.chord(1, 62);
        s.tie(1, true);
        s.tuplet(4, 1, 1, 3, 2, 1);
        s.tuplet(4, 1, 1, 3, 1, 1);
        int[] want = {4, 1, 1, 2, 1, 2, 1, 1, 1};
        for (int what = 0; what < want.length; what++) {
            due.is("at " + what, s.at(1, what), want[what]);
        }
        due.is("the first bar", s.at(0, 6), 0);
        due.is("in no tuplet", s.at(2, 5), 0);
        s.untuplet(0);
        s.untuplet(1);
        due.is("begins where the bars end", s.at(2, 6), StaveScore.NONE);
        due.refused(s, "what", s.at(1, 9), StaveScore.BAD);
        due.refused(s, "what", s.at(1, -1), StaveScore.BAD);
        due.refused(s, "no event", s.at(3, 0), StaveScore.BAD);
        due.refused(s, "no event", s.at(-1, 0), StaveScore.BAD);
    }

    private static void times(StaveScore s, int event, long... want) {
        for (int what = 0; what < want.length; what++) {
            due.is("time(" + event + ", " + what + ")", s.time(event, what), want[what]);
        }
    }

    private static void time() {
        StaveScore s = plain();
        s.bar(3, 4);
        s.bar(1, 2);
        s.put(0, 0, 0, 60, 0, 0);
        s.put(0, 1, 2, 60, 0, 2);
        s.put(0, 2, 4, 60, 0, 2);
        s.put(0, 3, 0, 60, 5, 1);
        s.put(0, 4, 3, 60, 1, 2);
        times(s, 0, 0, 1, 1, 1, 0, 1);
        times(s, 1, 1, 1, 0, 1, 1, 4);
        times(s, 2, 1, 1, 0, 1, 1, 4);
        times(s, 3, 1, 1, 3, 64, 1, 4);
        times(s, 4, 67, 64, 7, 8, 19, 64);
        s.tuplet(0, 0, 5, 7, 8, 0);
        s.tuplet(0, 0, 4, 7, 4, 0);
        times(s, 0, 0, 1, 32, 49, 0, 1);
        times(s, 3, 32, 49, 3, 98, 32, 49);
        times(s, 4, 67, 98, 1, 1, 67, 98);
        s.untuplet(1);
        times(s, 4, 67, 56, 1, 1, 25, 56);
        s.put(0, 5, 3, 60, 1, 0);
        s.tuplet(0, 5, 1, 3, 2, 0);
        times(s, 5, 123, 56, 1, 3, 0, 1);
        due.refused(s, "what", s.time(0, 6), StaveScore.BAD);
        due.refused(s, "what", s.time(0, -1), StaveScore.BAD);
        due.refused(s, "no event", s.time(6, 0), StaveScore.BAD);
    }

    private static void length() {
        StaveScore s = plain();
        due.is("an empty voice", s.length(1, 0), 0);
        due.is("an empty voice", s.length(1, 1), 1);
        s.put(1, 0, 0, 60, 2, 1);
        s.put(1, 1, 3, 60, 3, 0);
        s.put(1, 2, 2, 60, 0, 0);
        due.is("up", s.length(1, 0), 1);
        due.is("down", s.length(1, 1), 2);
        s.tuplet(1, 0, 1, 3, 1, 2);
        due.is("up", s.length(1, 0), 1);
        due.is("down", s.length(1, 1), 4);
        due.refused(s, "what", s.length(1, 2), StaveScore.BAD);
        due.refused(s, "what", s.length(1, -1), StaveScore.BAD);
        due.refused(s, "no voice", s.length(3, 0), StaveScore.BAD);
        due.refused(s, "no voice", s.length(-1, 0), StaveScore.BAD);
    }

    private static void event() {
        StaveScore s = plain();
        s.put(1, 0, 0, 60, 2, 0);
        due.is("event", s.event(1, 0), 0);
        due.refused(s, "no place", s.event(1, 1), StaveScore.NONE, 0);
        due.refused(s, "no place", s.event(1, -1), StaveScore.NONE, 0);
        due.refused(s, "no place", s.event(0, MAX), StaveScore.NONE, 0);
        due.refused(s, "no voice", s.event(3, 0), StaveScore.BAD);
        due.refused(s, "no voice", s.event(-1, 0), StaveScore.BAD);
    }

    private static void asks() {
        StaveScore s = new StaveScore();
        int[] heard = {0, -12, 0, -7, -19, 35};
        int[] least = {21, 21, 28, 28, 23, 21};
        int[] most = {108, 108, 82, 82, 82, 108};
        long[] heardTrace = {1, 11, 1, 101, 1101, 10000};
        for (int kind = 0; kind <= 5; kind++) {
            s.part(kind);
            long before = s.trace();
            due.is("heard by " + kind, s.asks(kind, 0, 0), heard[kind]);
            due.is("trace", s.trace() - before, heardTrace[kind]);
            before = s.trace();
            due.is("least of " + kind, s.asks(kind, 1, 500), least[kind]);
            due.is("trace", s.trace() - before, kind == 4 ? 100000 : 0);
            before = s.trace();
            due.is("most of " + kind, s.asks(kind, 2, -500), most[kind]);
            due.is("trace", s.trace(), before);
        }
        due.is("any number", s.asks(1, 0, 100000), 99988);
        due.is("any number", s.asks(4, 0, -100000), -100019);
        due.refused(s, "no part", s.asks(6, 0, 0), -2000, StaveScore.BAD);
        due.refused(s, "no part", s.asks(-1, 0, 0), -2000, StaveScore.BAD);
        due.refused(s, "what", s.asks(0, 3, 0), -2000, StaveScore.BAD);
        due.refused(s, "what", s.asks(0, -1, 0), -2000, StaveScore.BAD);
    }
}
