/** Promises 1 to 17 at their bounds: parts, bars, events. */
public final class PartsBarsEventsBoundaryTest {
    private static final int NONE = StaveScore.NONE, BAD = StaveScore.BAD, STATE = StaveScore.STATE, FULL = StaveScore.FULL;
    private static final int NULL = StaveScore.NULL, INDEX = StaveScore.INDEX, CAST = StaveScore.CAST,
        SIZE = StaveScore.SIZE;
    /** Numbers of events that are not there, or gone, in Scores.RICH, which has had ten. */
    private static final String NO_EVENT = "-1 7 10 -2 150 MIN MAX";
    /** Scores.RICH has two parts. */
    private static final String NO_VOICE = "-1 6 18 MIN MAX";
    private static final Score RICH = Scores.RICH;
    private static final Cases cases = new Cases("PartsBarsEventsBoundaryTest");

    public static void main(String[] args) {
        newObject();
        newObjectHasNoneSuch();
        part();
        bar();
        put();
        putOfRests();
        putIsBad();
        putIsFull();
        drop();
        dropFromTuplets();
        dropFromLines();
        dropFromRacks();
        chord();
        chordOfOtherKinds();
        pitch();
        heard();
        shift();
        shiftIsRefused();
        transpose();
        transposeEnds();
        tie();
        value();
        at();
        atBars();
        time();
        length();
        event();
        asks();
        asksAtTheEndsOfAnInt();
        cases.finish(1, 17);
    }

    private static void newObject() {
        cases.about("Promise 1", "Nothing is there.");
        Score none = Score.of();
        for (int what = 0; what <= 6; what++) {
            cases.answers(none, "count(" + what + ")", 0);
        }
        for (int kind = 0; kind <= 4; kind++) {
            cases.answers(none, "failures(" + kind + ")", 0);
        }
        cases.answers(none, "status()", 0, "trace()", 0);
        cases.takesAs(none, "walk()", 0);
        cases.takesAs(none, "check()", 0);
        cases.takesAs(none, "walked(0)", NONE);
        cases.takesAs(none, "finding(0, 0)", NONE);
        cases.answers(none, "part(0)", 0);
        cases.answers(none, "bar(1, 1)", 0);
    }

    private static void newObjectHasNoneSuch() {
        cases.about("Promise 1", "Nothing is there.");
        Score none = Score.of();
        cases.refuses(none, BAD, "put(0, 0, 0, 60, 2, 0)", "drop(0)", "chord(0, 60)", "pitch(0, 0)", "heard(0, 0)",
            "shift(0, 0)", "transpose(0, 0)", "tie(0, true)", "value(0, 0, 0)", "at(0, 0)", "time(0, 0)", "length(0, 0)",
            "event(0, 0)", "asks(0, 0, 60)", "tuplet(0, 0, 1, 3, 2, 2)", "untuplet(0)", "tupletAt(0, 0)", "line(0, 0, 0)",
            "line(0, 0, NONE)", "end(0, NONE)", "lineAt(0, 0)", "equal(0, 0)", "hold(0, 0, 0)", "lay(0, false, 0, 0)",
            "play(0, 0)");
        cases.refuses(none, NULL, "hold(0, 0, NONE)", "held(0, 0)", "slide(0, 0, 0, 0)", "item(0, 0)", "lift(0, 0, 0)",
            "copy(0, 0, 0, 0, 0)", "held(3, 0)", "item(3, 0)");
        cases.ends(none, NULL, "lay(0, true, 0, 0)", 0);
        cases.refuses(none, SIZE, "rack(0, 0, -1)", "shelf(0, 0, -1)");
    }

    private static void part() {
        cases.about("Promise 2", "A PART of a KIND: its number. BAD; FULL.");
        for (int kind = 0; kind <= 5; kind++) {
            cases.takes(Score.of(), "part(" + kind + ")", 0);
            cases.takes(RICH, "part(" + kind + ")", 2);
        }
        cases.refuses(Score.of(), BAD, Call.each("part(?)", "-1 6 MIN MAX"));
        cases.refuses(RICH, BAD, Call.each("part(?)", "-1 6 MIN MAX"));
        cases.takes(Score.of().with(5, i -> "part(0)"), "part(5)", 5);
        cases.refuses(Scores.FULL_PARTS, FULL, Call.each("part(?)", "0 1 2 3 4 5"));
        cases.refuses(Scores.FULL_PARTS, BAD, Call.each("part(?)", "-1 6 MIN MAX"));
    }

    private static void bar() {
        cases.about("Promise 3", "A BAR: its number. BAD; FULL.");
        for (String down : new String[] {"1", "2", "4", "8", "16", "32"}) {
            cases.takes(Score.of(), "bar(1, " + down + ")", 0);
            cases.takes(RICH, "bar(64, " + down + ")", 2);
        }
        cases.refuses(RICH, BAD, Call.each("bar(?, 4)", "0 65 -1 -64 MIN MAX"));
        cases.refuses(RICH, BAD, Call.each("bar(4, ?)", "0 -1 3 5 6 7 9 12 15 17 24 31 33 64 128 -2 -4 -32 MIN MAX"));
        cases.refuses(RICH, BAD, "bar(0, 0)", "bar(MAX, MAX)", "bar(MIN, MIN)");
        Score oneLess = Score.of("part(0)").with(23, i -> "bar(1, 4)");
        cases.takes(oneLess, "bar(1, 4)", 23);
        cases.refuses(Scores.FULL_BARS, FULL, "bar(1, 4)", "bar(64, 1)", "bar(1, 32)");
        cases.refuses(Scores.FULL_BARS, BAD, "bar(0, 4)", "bar(65, 4)", "bar(1, 3)", "bar(1, 64)", "bar(1, 0)");
    }

    private static void put() {
        cases.about("Promise 4", "An EVENT comes into a VOICE, at a PLACE (0 .. how many are there; those from there on "
            + "are one PLACE farther), not TIED: its number.");
        for (int place = 0; place <= 6; place++) {
            cases.takes(RICH, "put(0, " + place + ", 0, 60, 2, 0)", 10);
        }
        Score tied = Score.of("part(0)", Scores.note(0, 0, 60), Scores.note(0, 1, 61), "tie(0, true)", "tie(1, true)");
        int[][] rows = {{2, 0, 1}, {0, 2, 1}, {0, 1, 2}};
        for (int place = 0; place <= 2; place++) {
            Score then = tied.with("put(0, " + place + ", 0, 70, 2, 0)");
            for (int i = 0; i < 3; i++) {
                cases.answers(then, "event(0, " + i + ")", rows[place][i], "at(" + rows[place][i] + ", 1)", i);
            }
            cases.answers(then, "event(0, 3)", NONE, "at(2, 4)", 0, "at(0, 4)", 1, "at(1, 4)", 1);
        }
        cases.refuses(RICH, BAD, Call.each("put(0, ?, 0, 60, 2, 0)", "-1 7 40 MIN MAX"));
        cases.takes(RICH, "put(5, 0, 0, 60, 2, 0)", 10);
        cases.refuses(RICH, BAD, "put(5, 1, 0, 60, 2, 0)", "put(5, -1, 0, 60, 2, 0)");
    }

    private static void putOfRests() {
        cases.about("Promise 4", "(pitch is not looked at for RESTS.)");
        for (String pitch : new String[] {"-1", "128", "MIN", "MAX", "0"}) {
            cases.takes(RICH, "put(0, 0, 3, " + pitch + ", 2, 0)", 10);
            cases.takes(RICH, "put(0, 0, 4, " + pitch + ", 2, 0)", 10);
        }
        for (int kind = 0; kind <= 2; kind++) {
            cases.takes(RICH, "put(0, 0, " + kind + ", 0, 2, 0)", 10);
            cases.takes(RICH, "put(0, 0, " + kind + ", 127, 2, 0)", 10);
            cases.refuses(RICH, BAD, Call.each("put(0, 0, " + kind + ", ?, 2, 0)", "-1 128 MIN MAX"));
        }
    }

    private static void putIsBad() {
        cases.about("Promise 4", "BAD; FULL: 150 ever, 40 there.");
        cases.refuses(RICH, BAD, Call.each("put(?, 0, 0, 60, 2, 0)", NO_VOICE));
        cases.refuses(RICH, BAD, Call.each("put(0, 0, ?, 60, 2, 0)", "-1 5 MIN MAX"));
        cases.refuses(RICH, BAD, Call.each("put(0, 0, 3, 60, ?, 0)", "-1 6 MIN MAX"));
        cases.refuses(RICH, BAD, Call.each("put(0, 0, 3, 60, 2, ?)", "-1 3 MIN MAX"));
        for (int kind = 0; kind <= 4; kind++) {
            cases.takes(RICH, "put(5, 0, " + kind + ", 60, 0, 0)", 10);
            cases.takes(RICH, "put(5, 0, " + kind + ", 60, 5, 2)", 10);
        }
    }

    private static void putIsFull() {
        cases.about("Promise 4", "FULL: 150 ever, 40 there.");
        String[] bad = {"put(-1, 0, 0, 60, 2, 0)", "put(0, -1, 0, 60, 2, 0)", "put(0, 41, 0, 60, 2, 0)",
            "put(0, 0, 5, 60, 2, 0)", "put(0, 0, 0, 128, 2, 0)", "put(0, 0, 0, 60, 6, 0)", "put(0, 0, 0, 60, 2, 3)"};
        Score oneLess = Score.of("part(0)").with(39, i -> Scores.rest(0, i));
        cases.takes(oneLess, Scores.rest(0, 39), 39);
        cases.refuses(Scores.FULL_VOICE, FULL, Scores.rest(0, 0), Scores.rest(0, 20), Scores.rest(0, 40));
        cases.refuses(Scores.FULL_VOICE, BAD, bad);
        cases.takes(Scores.FULL_VOICE, Scores.rest(1, 0), 41);
        cases.takes(Scores.FULL_VOICE.with("drop(0)"), Scores.rest(0, 39), 41);

        Score lastLess = Score.of("part(0)", "part(0)").with(149, i -> Scores.rest(i / 40, i % 40));
        cases.takes(lastLess, Scores.rest(5, 0), 149);
        cases.refuses(Scores.FULL_EVENTS, FULL, Scores.rest(5, 0), Scores.rest(3, 30), Scores.rest(0, 40));
        cases.refuses(Scores.FULL_EVENTS, BAD, bad);
        cases.refuses(Scores.FULL_EVENTS.with("drop(149)", "drop(0)"), FULL, Scores.rest(5, 0), Scores.rest(0, 39));
    }

    private static void drop() {
        cases.about("Promise 5", "An EVENT leaves its VOICE, RACKS, and is gone: the PLACE it had.");
        for (int place = 0; place < 3; place++) {
            Score three = Scores.notes(3);
            cases.takes(three, "drop(" + place + ")", place);
            Score then = three.with("drop(" + place + ")");
            cases.answers(then, "event(0, 0)", place == 0 ? 1 : 0, "event(0, 1)", place == 2 ? 1 : 2, "event(0, 2)", NONE,
                "at(" + place + ", 0)", BAD, "count(2)", 2, "count(3)", 3, "length(0, 0)", 1, "length(0, 1)", 2);
            cases.refuses(then, BAD, "drop(" + place + ")");
        }
        cases.takes(Scores.FULL_VOICE, "drop(39)", 39);
        cases.takes(Scores.FULL_EVENTS, "drop(149)", 29);
        Score emptied = Scores.notes(1).with("drop(0)");
        cases.answers(emptied, "event(0, 0)", NONE, "length(0, 0)", 0, "length(0, 1)", 1, "count(2)", 0, "check()", 0,
            "walk()", 0);
        cases.about("Promise 5", "those that end at it end nowhere. BAD.");
        cases.refuses(RICH, BAD, Call.each("drop(?)", NO_EVENT));
        cases.refuses(Scores.FULL_EVENTS, BAD, "drop(150)");
    }

    private static void dropFromTuplets() {
        cases.about("Promise 5", "TUPLETS go on with what they have left, or are gone;");
        Score four = Scores.notes(5).with("tuplet(0, 1, 3, 3, 2, 2)");
        int[][] firstAndMany = {{0, 3}, {1, 2}, {1, 2}, {1, 2}, {1, 3}};
        for (int event = 0; event < 5; event++) {
            cases.answers(four.with("drop(" + event + ")"), "tupletAt(0, 1)", firstAndMany[event][0],
                "tupletAt(0, 2)", firstAndMany[event][1], "count(4)", 1);
        }
        Score one = four.with("drop(1)", "drop(3)");
        cases.answers(one, "tupletAt(0, 1)", 1, "tupletAt(0, 2)", 1, "at(2, 5)", 1, "at(4, 5)", 0);
        cases.answers(one.with("drop(2)"), "tupletAt(0, 0)", BAD, "count(4)", 0, "at(4, 5)", 0);
        cases.takesAs(Scores.notes(2).with("tuplet(0, 1, 1, 3, 2, 2)"), "drop(1)", 1, "untuplet(0)", "drop(1)");
        Score nested = Scores.notes(3).with("tuplet(0, 0, 3, 3, 2, 2)", "tuplet(0, 0, 1, 5, 4, 2)");
        cases.answers(nested.with("drop(0)"), "tupletAt(0, 2)", 2, "tupletAt(1, 2)", BAD, "at(1, 5)", 1, "count(4)", 1);
        cases.answers(nested.with("drop(1)", "drop(2)", "drop(0)"), "tupletAt(0, 2)", BAD, "tupletAt(1, 2)", BAD,
            "count(4)", 0);
    }

    private static void dropFromLines() {
        cases.about("Promise 5", "LINES that begin at it are gone, those that end at it end nowhere.");
        Score lines = Scores.notes(3).with("line(0, 0, 1)", "line(1, 1, 0)", "line(2, 0, 0)", "line(3, 1, 2)",
            "line(0, 0, NONE)");
        Score then = lines.with("drop(0)");
        cases.answers(then, "lineAt(0, 0)", BAD, "lineAt(1, 0)", 1, "lineAt(1, 1)", 1, "lineAt(1, 2)", NONE,
            "lineAt(2, 0)", BAD, "lineAt(3, 2)", 2, "lineAt(4, 0)", BAD, "count(5)", 2);
        cases.refuses(then, BAD, "end(0, 1)", "end(2, NONE)", "end(4, NONE)");
        cases.answers(then, "line(0, 1, 2)", 5);
        for (int kind = 0; kind <= 3; kind++) {
            Score one = Scores.notes(2).with("line(" + kind + ", 1, 0)");
            cases.takesAs(one, "drop(0)", 0, "end(0, NONE)", "drop(0)");
            cases.answers(one.with("drop(0)"), "lineAt(0, 0)", kind, "lineAt(0, 1)", 1, "lineAt(0, 2)", NONE);
            cases.answers(one.with("drop(1)"), "lineAt(0, 0)", BAD, "count(5)", 0);
        }
    }

    private static void dropFromRacks() {
        cases.about("Promise 5", "An EVENT leaves its VOICE, RACKS, and is gone");
        Score racks = Scores.notes(2).with("rack(0, 5, 20)", "rack(3, 0, 2)", "hold(0, 0, 0)", "hold(0, 19, 0)",
            "hold(0, 5, 1)", "hold(3, 0, 1)", "hold(3, 1, 0)");
        cases.takesAs(racks, "drop(0)", 0, "hold(0, 0, NONE)", "hold(0, 19, NONE)", "hold(3, 1, NONE)", "drop(0)");
        cases.answers(racks.with("drop(0)"), "held(0, 0)", NULL, "held(0, 19)", NULL, "held(3, 1)", NULL, "held(0, 5)", 1,
            "held(3, 0)", 1);
    }

    private static void chord() {
        cases.about("Promise 6", "One pitch more for a CHORD: how many it has. BAD; CAST: no CHORD (ahead of the others); "
            + "STATE: it is not above the last one; FULL: 6.");
        cases.refuses(RICH, BAD, Call.each("chord(?, 66)", NO_EVENT));
        cases.refuses(RICH, BAD, Call.each("chord(1, ?)", "-1 128 MIN MAX"));
        cases.refuses(RICH, STATE, "chord(1, 65)", "chord(1, 64)", "chord(1, 62)", "chord(1, 0)");
        cases.takes(RICH, "chord(1, 66)", 3);
        cases.takes(RICH, "chord(1, 127)", 3);
        cases.answers(RICH.with("chord(1, 127)"), "pitch(1, 1)", 65, "pitch(1, 2)", 127, "chord(1, 127)", STATE,
            "chord(1, 128)", BAD);
        Score five = RICH.with("chord(1, 66)", "chord(1, 67)", "chord(1, 68)");
        cases.takes(five, "chord(1, 69)", 6);
        Score six = five.with("chord(1, 69)");
        cases.refuses(six, FULL, "chord(1, 70)", "chord(1, 127)");
        cases.refuses(six, STATE, "chord(1, 69)", "chord(1, 0)");
        cases.refuses(six, BAD, "chord(1, 128)", "chord(1, -1)");
        cases.refuses(Score.of("part(0)", "put(0, 0, 1, 127, 2, 0)"), STATE, "chord(0, 127)", "chord(0, 0)");
        cases.takes(Score.of("part(0)", "put(0, 0, 1, 0, 2, 0)"), "chord(0, 1)", 2);
        cases.refuses(Score.of("part(0)", "put(0, 0, 1, 0, 2, 0)"), STATE, "chord(0, 0)");
    }

    private static void chordOfOtherKinds() {
        cases.about("Promise 6", "CAST: no CHORD (ahead of the others)");
        for (int kind : new int[] {0, 2, 3, 4}) {
            cases.refuses(RICH, CAST, Call.each("chord(" + kind + ", ?)", "0 60 64 65 127"));
        }
    }

    private static void pitch() {
        cases.about("Promise 7", "Its pitch i (0 the lowest), as written; NONE: none such. BAD; CAST: no NOTE.");
        cases.takesAs(RICH, "pitch(0, 0)", 60);
        cases.takesAs(RICH, "pitch(1, 0)", 62);
        cases.takesAs(RICH, "pitch(1, 1)", 65);
        cases.takesAs(RICH, "pitch(2, 0)", 64);
        for (String call : Call.each("pitch(1, ?)", "-1 2 5 6 MIN MAX")) {
            cases.takesAs(RICH, call, NONE);
        }
        cases.takes(RICH, "pitch(0, 1)", NONE);
        cases.takes(RICH, "pitch(2, -1)", NONE);
        Score six = RICH.with("chord(1, 66)", "chord(1, 67)", "chord(1, 68)", "chord(1, 69)");
        cases.answers(six, "pitch(1, 5)", 69, "pitch(1, 6)", NONE);
        cases.refuses(RICH, BAD, Call.each("pitch(?, 0)", NO_EVENT));
        cases.refuses(RICH, CAST, "pitch(3, 0)", "pitch(4, 0)", "pitch(3, -1)", "pitch(4, MAX)", "pitch(3, MIN)");
    }

    private static void heard() {
        cases.about("Promise 8", "Its pitch i as it is HEARD (OCTAVES, too); -1000: none such. BAD; CAST (told as -2000, "
            + "-2001).");
        cases.takesAs(RICH, "heard(0, 0)", 60 - 19 + 12, "asks(0, 0, 0)");
        cases.takesAs(RICH, "heard(1, 1)", 65 - 19 + 12, "asks(0, 0, 0)");
        cases.takesAs(RICH, "heard(2, 0)", 64 - 19, "asks(0, 0, 0)");
        cases.takesAs(RICH, "heard(6, 0)", 100, "asks(1, 0, 0)");
        for (String call : Call.each("heard(1, ?)", "-1 2 6 MIN MAX")) {
            cases.takesAs(RICH, call, -1000);
        }
        cases.refuses(RICH, BAD, Call.each("heard(?, 0)", NO_EVENT));
        cases.refuses(RICH, CAST, "heard(3, 0)", "heard(4, 0)", "heard(3, -1)", "heard(4, MAX)");
        Score lowest = Score.of("part(4)", "put(0, 0, 0, 0, 2, 0)");
        cases.takes(lowest, "heard(0, 0)", -19);
        cases.takes(Score.of("part(0)", Scores.note(0, 0, 127)).with(30, i -> "line(2, 0, 0)"),
            "heard(0, 0)", 127 + 30 * 12);
    }

    private static void shift() {
        cases.about("Promise 9", "All its pitches are by more (or less): how many.");
        cases.takesAs(RICH, "shift(0, 0)", 1);
        cases.takesAs(RICH, "shift(1, 0)", 2);
        cases.takes(RICH, "shift(0, 67)", 1);
        cases.takes(RICH, "shift(0, -60)", 1);
        cases.takes(RICH, "shift(1, 62)", 2);
        cases.takes(RICH, "shift(1, -62)", 2);
        cases.takes(RICH, "shift(2, 63)", 1);
        cases.answers(RICH.with("shift(1, 62)"), "pitch(1, 0)", 124, "pitch(1, 1)", 127, "pitch(0, 0)", 60);
        cases.answers(RICH.with("shift(1, -62)"), "pitch(1, 0)", 0, "pitch(1, 1)", 3, "pitch(2, 0)", 64);
        cases.takesAs(RICH.with("shift(0, 67)"), "shift(0, -127)", 1, "shift(0, -67)", "shift(0, -60)");
    }

    private static void shiftIsRefused() {
        cases.about("Promise 9", "BAD; CAST; INDEX: one would be below 0, or above 127.");
        cases.refuses(RICH, INDEX, Call.each("shift(0, ?)", "68 -61 128 -128 MIN MAX"));
        cases.refuses(RICH, INDEX, Call.each("shift(1, ?)", "63 65 -63 -65 MIN MAX"));
        cases.refuses(RICH, INDEX, Call.each("shift(2, ?)", "64 -65"));
        cases.refuses(RICH, BAD, Call.each("shift(?, 1)", NO_EVENT));
        cases.refuses(RICH, BAD, Call.each("shift(?, MAX)", NO_EVENT));
        cases.refuses(RICH, CAST, "shift(3, 0)", "shift(4, 1)", "shift(3, MAX)", "shift(4, MIN)");
        cases.refuses(Score.of("part(0)", Scores.note(0, 0, 127)), INDEX, "shift(0, 1)", "shift(0, MAX)", "shift(0, -128)");
        cases.refuses(Score.of("part(0)", Scores.note(0, 0, 0)), INDEX, "shift(0, -1)", "shift(0, MIN)", "shift(0, 128)");
    }

    private static void transpose() {
        cases.about("Promise 10", "All NOTES of a VOICE, by PLACES, are shifted");
        cases.takesAs(RICH, "transpose(0, 62)", 4, "shift(0, 62)", "shift(1, 62)", "shift(2, 62)", "shift(5, 62)");
        cases.takesAs(RICH, "transpose(0, -60)", 4, "shift(0, -60)", "shift(1, -60)", "shift(2, -60)", "shift(5, -60)");
        cases.takesAs(RICH, "transpose(0, 0)", 4);
        for (String by : new String[] {"1", "MIN", "MAX"}) {
            cases.takesAs(RICH, "transpose(5, " + by + ")", 0);
            cases.takesAs(Scores.FULL_EVENTS, "transpose(0, " + by + ")", 0);
        }
        cases.takes(Score.of("part(0)").with(40, i -> Scores.note(0, i, 126)), "transpose(0, 1)", 40);
    }

    private static void transposeEnds() {
        cases.about("Promise 10", "up to the first that cannot be (INDEX, told by status(); those ahead of it stay "
            + "shifted): how many NOTES were. BAD.");
        cases.ends(RICH, INDEX, "transpose(0, 63)", 1, "shift(0, 63)");
        cases.ends(RICH, INDEX, "transpose(0, -61)", 0);
        cases.ends(RICH, INDEX, "transpose(0, MIN)", 0);
        cases.ends(RICH, INDEX, "transpose(0, MAX)", 0);
        cases.ends(RICH, INDEX, "transpose(4, -31)", 1, "shift(6, -31)");
        cases.ends(RICH, INDEX, "transpose(4, 28)", 0);
        Score last = Score.of("part(0)").with(39, i -> Scores.note(0, i, 126)).with(Scores.note(0, 39, 127));
        cases.ends(last, INDEX, "transpose(0, 1)", 39, last(39));
        cases.refuses(RICH, BAD, Call.each("transpose(?, 1)", NO_VOICE));
        cases.refuses(RICH, BAD, Call.each("transpose(?, MAX)", NO_VOICE));
    }

    private static String[] last(int many) {
        String[] shifts = new String[many];
        for (int i = 0; i < many; i++) {
            shifts[i] = "shift(" + i + ", 1)";
        }
        return shifts;
    }

    private static void tie() {
        cases.about("Promise 11", "A NOTE is TIED, or not: what it was (1, 0). BAD; CAST.");
        for (int kind = 0; kind <= 2; kind++) {
            cases.takesAs(RICH, "tie(" + kind + ", false)", 0);
            cases.takes(RICH, "tie(" + kind + ", true)", 0);
            cases.takesAs(RICH.with("tie(" + kind + ", true)"), "tie(" + kind + ", true)", 1);
            cases.answers(RICH, "tie(" + kind + ", true)", 0, "at(" + kind + ", 4)", 1, "tie(" + kind + ", false)", 1,
                "at(" + kind + ", 4)", 0, "tie(" + kind + ", false)", 0);
        }
        cases.refuses(RICH, CAST, "tie(3, true)", "tie(3, false)", "tie(4, true)", "tie(4, false)");
        cases.refuses(RICH, BAD, Call.each("tie(?, true)", NO_EVENT));
        cases.refuses(RICH, BAD, Call.each("tie(?, false)", NO_EVENT));
    }

    private static void value() {
        cases.about("Promise 12", "VALUE and DOTS of an EVENT become others: 1. BAD.");
        for (int event = 0; event <= 4; event++) {
            cases.takes(RICH, "value(" + event + ", 0, 0)", 1);
            cases.answers(RICH.with("value(" + event + ", 0, 0)"), "at(" + event + ", 7)", 0, "at(" + event + ", 8)", 0);
            cases.takes(RICH, "value(" + event + ", 5, 2)", 1);
            cases.answers(RICH.with("value(" + event + ", 5, 2)"), "at(" + event + ", 7)", 5, "at(" + event + ", 8)", 2);
            cases.refuses(RICH, BAD, Call.each("value(" + event + ", ?, 0)", "-1 6 MIN MAX"));
            cases.refuses(RICH, BAD, Call.each("value(" + event + ", 0, ?)", "-1 3 MIN MAX"));
        }
        cases.takesAs(RICH, "value(0, 2, 0)", 1);
        cases.refuses(RICH, BAD, Call.each("value(?, 0, 0)", NO_EVENT));
    }

    private static void at() {
        cases.about("Promise 13", "Of an EVENT: 0 VOICE, 1 PLACE, 2 KIND, 3 how many pitches, 4 whether it is TIED, 5 in "
            + "how many TUPLETS it lies, 6 the BAR in which it BEGINS (NONE), 7 VALUE, 8 DOTS. BAD.");
        int[][] want = {{0, 0, 0, 1, 0, 1, 0, 2, 0}, {0, 1, 1, 2, 0, 2, 0, 3, 1}, {0, 2, 2, 1, 0, 2, 0, 3, 0},
            {0, 3, 3, 0, 0, 1, 0, 2, 2}, {0, 4, 4, 0, 0, 0, 0, 0, 0}, {0, 5, 0, 1, 1, 0, 0, 1, 0}};
        for (int event = 0; event < want.length; event++) {
            for (int what = 0; what <= 8; what++) {
                cases.takesAs(RICH, "at(" + event + ", " + what + ")", want[event][what]);
            }
        }
        cases.refuses(RICH, BAD, Call.each("at(0, ?)", "-1 9 MIN MAX"));
        cases.refuses(RICH, BAD, Call.each("at(?, 0)", NO_EVENT));
        cases.refuses(RICH, BAD, Call.each("at(?, 8)", NO_EVENT));
        cases.answers(Scores.FULL_EVENTS, "at(149, 0)", 3, "at(149, 1)", 29, "at(150, 0)", BAD);
        cases.answers(RICH.with("put(5, 0, 0, 60, 2, 0)"), "at(10, 0)", 5);
    }

    private static void atBars() {
        cases.about("Promise 13", "6 the BAR in which it BEGINS (NONE)");
        cases.takes(Scores.notes(1), "at(0, 6)", NONE);
        cases.takes(Scores.notes(1).with("bar(1, 32)"), "at(0, 6)", 0);
        cases.takes(Scores.notes(2).with("bar(1, 4)"), "at(1, 6)", NONE);
        cases.takes(Scores.notes(2).with("bar(1, 4)", "bar(1, 32)"), "at(1, 6)", 1);
        Score quarters = Scores.FULL_BARS.with(26, i -> Scores.note(0, i, 60));
        cases.answers(quarters, "at(0, 6)", 0, "at(1, 6)", 1, "at(22, 6)", 22, "at(23, 6)", 23, "at(24, 6)", NONE,
            "at(25, 6)", NONE);
        Score graceAtTheEnd = Scores.notes(1).with("bar(1, 4)", "put(0, 1, 2, 60, 2, 0)", "put(0, 0, 4, 60, 2, 0)");
        cases.answers(graceAtTheEnd, "at(1, 6)", NONE, "at(2, 6)", 0);
    }

    private static void time() {
        cases.about("Promise 14", "Of an EVENT: 0, 1 UP and DOWN of where it BEGINS, 2, 3 of its TIME, 4, 5 of where it "
            + "BEGINS, less where the BAR does (0, 1 where there is none). BAD.");
        Score s = Score.of("part(0)", "bar(3, 4)", "bar(1, 2)", "put(0, 0, 0, 60, 0, 0)", "put(0, 1, 2, 60, 0, 2)",
            "put(0, 2, 0, 60, 2, 0)", "put(0, 3, 3, 0, 5, 2)");
        long[][] want = {{0, 1, 1, 1, 0, 1}, {1, 1, 0, 1, 1, 4}, {1, 1, 1, 4, 1, 4}, {5, 4, 7, 128, 0, 1}};
        for (int event = 0; event < want.length; event++) {
            for (int what = 0; what <= 5; what++) {
                cases.takesAs(s, "time(" + event + ", " + what + ")", want[event][what]);
            }
        }
        cases.answers(Scores.notes(2), "time(1, 4)", 0, "time(1, 5)", 1);
        cases.answers(Scores.notes(2).with("bar(1, 4)", "bar(1, 4)"), "time(1, 4)", 0, "time(1, 5)", 1);
        cases.refuses(RICH, BAD, Call.each("time(0, ?)", "-1 6 MIN MAX"));
        cases.refuses(RICH, BAD, Call.each("time(?, 0)", NO_EVENT));
        cases.refuses(RICH, BAD, Call.each("time(?, 5)", NO_EVENT));
    }

    private static void length() {
        cases.about("Promise 15", "UP (0), DOWN (1) of the TIME of all EVENTS of a VOICE. BAD.");
        cases.takesAs(RICH, "length(5, 0)", 0);
        cases.takesAs(RICH, "length(5, 1)", 1);
        cases.takesAs(RICH, "length(4, 0)", 3);
        cases.takesAs(RICH, "length(4, 1)", 4);
        cases.answers(Score.of("part(0)", "put(0, 0, 2, 60, 0, 0)", "put(0, 1, 4, 60, 0, 0)"), "length(0, 0)", 0,
            "length(0, 1)", 1);
        Score longest = Score.of("part(0)").with(40, i -> "put(0, " + i + ", 3, 0, 0, 2)").with("tuplet(0, 0, 40, 3, 8, 0)",
            "tuplet(0, 0, 40, 3, 8, 0)");
        cases.answers(longest, "length(0, 0)", 4480, "length(0, 1)", 9);
        cases.refuses(RICH, BAD, Call.each("length(0, ?)", "-1 2 MIN MAX"));
        cases.refuses(RICH, BAD, Call.each("length(?, 0)", NO_VOICE));
        cases.refuses(RICH, BAD, Call.each("length(?, 1)", NO_VOICE));
    }

    private static void event() {
        cases.about("Promise 16", "The EVENT at a PLACE of a VOICE; NONE: none such. BAD.");
        cases.takesAs(RICH, "event(0, 0)", 0);
        cases.takesAs(RICH, "event(0, 5)", 5);
        cases.takesAs(RICH, "event(4, 1)", 8);
        for (String call : Call.each("event(0, ?)", "-1 6 39 40 MIN MAX")) {
            cases.takesAs(RICH, call, NONE);
        }
        cases.takes(RICH, "event(5, 0)", NONE);
        cases.answers(Scores.FULL_EVENTS, "event(0, 39)", 39, "event(0, 40)", NONE, "event(3, 29)", 149,
            "event(3, 30)", NONE);
        cases.refuses(RICH, BAD, Call.each("event(?, 0)", NO_VOICE));
        cases.refuses(RICH, BAD, Call.each("event(?, -1)", NO_VOICE));
    }

    private static void asks() {
        cases.about("Promise 17", "By a PART's KIND, of a pitch (any number): what is HEARD (0), LEAST (1), MOST (2). BAD "
            + "(told as -2000).");
        int[] heardOf0 = {0, -12, 0, -7, -19, 35};
        int[] least = {21, 21, 28, 28, 23, 21};
        int[] most = {108, 108, 82, 82, 82, 108};
        for (int kind = 0; kind <= 5; kind++) {
            cases.takes(Scores.FULL_PARTS, "asks(" + kind + ", 0, 0)", heardOf0[kind]);
            for (String pitch : new String[] {"0", "-1", "128", "MIN", "MAX"}) {
                cases.takes(Scores.FULL_PARTS, "asks(" + kind + ", 1, " + pitch + ")", least[kind]);
                cases.takesAs(Scores.FULL_PARTS, "asks(" + kind + ", 2, " + pitch + ")", most[kind]);
            }
        }
        cases.refuses(RICH, BAD, Call.each("asks(?, 0, 60)", "-1 2 6 MIN MAX"));
        cases.refuses(RICH, BAD, Call.each("asks(?, 2, 60)", "-1 2 6 MIN MAX"));
        cases.refuses(RICH, BAD, Call.each("asks(0, ?, 60)", "-1 3 MIN MAX"));
        cases.refuses(Scores.FULL_PARTS, BAD, "asks(6, 0, 60)", "asks(5, 3, 60)");
    }

    private static void asksAtTheEndsOfAnInt() {
        cases.about("Promise 17", "of a pitch (any number)");
        int min = Integer.MIN_VALUE;
        int max = Integer.MAX_VALUE;
        cases.answers(Scores.FULL_PARTS, "asks(0, 0, MIN)", min, "asks(0, 0, MAX)", max, "asks(2, 0, MIN)", min,
            "asks(2, 0, MAX)", max, "asks(1, 0, MAX)", max - 12, "asks(3, 0, MAX)", max - 7, "asks(4, 0, MAX)", max - 19,
            "asks(5, 0, MIN)", 35, "asks(5, 0, MAX)", 35);
        // The answer is an int: where it is less than the least one, it wraps around.
        cases.answers(Scores.FULL_PARTS, "asks(1, 0, MIN)", max - 11, "asks(3, 0, MIN)", max - 6,
            "asks(4, 0, MIN)", max - 18);
    }
}
