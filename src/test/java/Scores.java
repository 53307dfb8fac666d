/** Scores that several boundary tests begin with. */
final class Scores {
    /**
     * Something of everything: events 0 .. 4 are of KINDS 0 .. 4, in voice 0; event 7, tuplet 2 and line 0 are
     * gone; the latest walk() and check() are older than event 9; rack 3 and shelf 3 have no ROW, rack 1 and
     * shelf 1 one of no places; each kind of FAILURES has another number.
     */
    static final Score RICH = Score.of(
        "part(4)", "part(0)", "bar(3, 4)", "bar(1, 2)",
        "put(0, 0, 0, 60, 2, 0)", "put(0, 1, 1, 62, 3, 1)", "chord(1, 65)", "put(0, 2, 2, 64, 3, 0)",
        "put(0, 3, 3, 0, 2, 2)", "put(0, 4, 4, 0, 0, 0)", "put(0, 5, 0, 65, 1, 0)", "tie(5, true)",
        "put(4, 0, 0, 100, 2, 0)", "put(4, 0, 3, 0, 2, 0)", "line(3, 7, 6)", "drop(7)", "put(4, 1, 0, 30, 1, 0)",
        "tuplet(0, 0, 4, 3, 2, 2)", "tuplet(0, 1, 2, 5, 4, 3)", "tuplet(4, 0, 1, 7, 8, 5)", "untuplet(2)",
        "line(2, 0, 1)", "line(0, 6, 8)", "line(1, 5, NONE)",
        "rack(0, 5, 3)", "hold(0, 0, 1)", "hold(0, 2, 3)", "rack(1, 0, 0)", "rack(2, 3, 2)", "hold(2, 0, 4)",
        "shelf(0, 0, 3)", "lift(0, 0, 60)", "lift(0, 2, 200)", "shelf(1, 1, 0)", "shelf(2, 2, 2)", "lift(2, 1, 40000)")
        .withRefused("held(3, 0)", "held(0, 3)", "held(0, 3)", "pitch(3, 0)", "pitch(3, 0)", "pitch(3, 0)",
            "hold(2, 1, 0)", "hold(2, 1, 0)", "hold(2, 1, 0)", "hold(2, 1, 0)",
            "rack(3, 0, -1)", "rack(3, 0, -1)", "rack(3, 0, -1)", "rack(3, 0, -1)", "rack(3, 0, -1)")
        .with("walk()", "check()", "put(1, 0, 0, 70, 2, 0)");

    /** One event of each KIND in voice 0, as long as a quarter; its number is its KIND. */
    static final Score KINDS = Score.of("part(0)")
        .with(5, kind -> "put(0, " + kind + ", " + kind + ", " + (60 + kind) + ", 2, 0)");

    static final Score FULL_PARTS = Score.of().with(6, kind -> "part(" + kind + ")");

    static final Score FULL_BARS = Score.of("part(0)").with(24, bar -> "bar(1, 4)");

    /** Voice 0 has 40 events, of 150 ever 41 came, and number 40 is gone. */
    static final Score FULL_VOICE = Score.of("part(0)").with(40, i -> rest(0, i)).with(rest(1, 0), "drop(40)");

    /** Voices 0, 1 and 2 have 40 events, voice 3 has 30. */
    static final Score FULL_EVENTS = Score.of("part(0)", "part(0)").with(150, i -> rest(i / 40, i % 40));

    /** Each of the first 20 events of voice 0 is a tuplet of its own; two more events lie behind them. */
    static final Score FULL_TUPLETS = Score.of("part(0)").with(22, i -> rest(0, i))
        .with(20, i -> "tuplet(0, " + i + ", 1, 3, 2, 2)");

    static final Score FULL_LINES = Score.of("part(0)", rest(0, 0), rest(0, 1)).with(30, i -> "line(" + i % 4 + ", 0, 1)");

    private Scores() {
    }

    static String rest(int voice, int place) {
        return "put(" + voice + ", " + place + ", 3, 0, 2, 0)";
    }

    static String note(int voice, int place, int pitch) {
        return "put(" + voice + ", " + place + ", 0, " + pitch + ", 2, 0)";
    }

    /** Voice 0 has so many quarters, upwards from pitch 60. */
    static Score notes(int many) {
        return Score.of("part(0)").with(many, i -> note(0, i, 60 + i));
    }
}
