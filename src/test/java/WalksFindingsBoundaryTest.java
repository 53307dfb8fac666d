/** Promises 24 to 28 at their bounds, and what "Terms" says of FINDINGS. */
public final class WalksFindingsBoundaryTest {
    private static final int NONE = StaveScore.NONE, BAD = StaveScore.BAD;
    private static final int OVER = 0, TIE = 1, RANGE = 2, SHORT = 3, LONG = 4, SUM = 5, OPEN = 6, BACK = 7;
    private static final Score RICH = Scores.RICH;
    private static final Cases cases = new Cases("WalksFindingsBoundaryTest");

    public static void main(String[] args) {
        walk();
        walkOfOneMoment();
        walked();
        over();
        overByTheLeast();
        tie();
        tieOverGraces();
        rangeOfEachKind();
        rangeOfChords();
        rangeUnderOctaves();
        rangeAsksUpToTheFirst();
        shortAndLong();
        sum();
        sumWithInnerOnes();
        openAndBack();
        order();
        check();
        finding();
        findingsKept();
        equal();
        equalEvents();
        equalTuplets();
        cases.finish(24, 28);
    }

    /** A check() finds these, and no more: KIND, of what, BAR, of each. */
    private static void finds(Score score, int... want) {
        int many = want.length / 3;
        cases.takes(score, "check()", many);
        Score then = score.with("check()");
        cases.answers(then, "count(6)", many, "finding(" + many + ", 0)", NONE);
        for (int i = 0; i < want.length; i++) {
            cases.answers(then, "finding(" + i / 3 + ", " + i % 3 + ")", want[i]);
        }
    }

    private static void walks(Score score, int... want) {
        cases.takes(score, "walk()", want.length);
        Score then = score.with("walk()");
        for (int i = 0; i < want.length; i++) {
            cases.answers(then, "walked(" + i + ")", want[i]);
        }
        cases.answers(then, "walked(" + want.length + ")", NONE);
    }

    private static void walk() {
        cases.about("Promise 24", "THE WALK: all EVENTS by where they BEGIN, of several by VOICES, then by PLACES: how "
            + "many.");
        walks(Score.of());
        walks(Score.of("part(0)"));
        walks(Scores.notes(1), 0);
        walks(Scores.notes(1).with("drop(0)"));
        walks(Score.of("part(0)", "part(0)", Scores.rest(5, 0), Scores.rest(5, 1), Scores.rest(0, 0)), 2, 0, 1);
        int[] all = new int[150];
        for (int i = 0; i < 150; i++) {
            int quarter = i < 120 ? i / 4 : 30 + (i - 120) / 3;
            int voice = i < 120 ? i % 4 : (i - 120) % 3;
            all[i] = voice * 40 + quarter;
        }
        walks(Scores.FULL_EVENTS, all);
    }

    private static void walkOfOneMoment() {
        cases.about("Promise 24", "of several by VOICES, then by PLACES");
        Score graces = Score.of("part(0)", "put(1, 0, 2, 60, 2, 0)", "put(0, 0, 2, 60, 2, 0)", "put(0, 0, 4, 60, 2, 0)",
            "put(1, 1, 0, 60, 2, 0)", "put(0, 2, 0, 60, 3, 0)", "put(0, 3, 2, 60, 3, 0)", "put(1, 2, 3, 60, 3, 0)");
        walks(graces, 2, 1, 4, 0, 3, 5, 6);
        // Three eighths in the time of two end where a quarter does, to the last fraction.
        Score triplets = Score.of("part(0)").with(4, i -> "put(0, " + i + ", 3, 0, 3, 0)")
            .with(2, i -> "put(1, " + i + ", 3, 0, 2, 0)").with("tuplet(0, 0, 3, 3, 2, 3)");
        walks(triplets, 0, 4, 1, 2, 3, 5);
        walks(triplets.with("untuplet(0)"), 0, 4, 1, 2, 5, 3);
        walks(triplets.with("untuplet(0)", "tuplet(0, 0, 3, 3, 1, 3)"), 0, 4, 1, 2, 3, 5);
    }

    private static void walked() {
        cases.about("Promise 25", "The i-th EVENT of the latest walk() (as it was then); NONE: none such.");
        Score score = Scores.notes(3).with("walk()");
        cases.takesAs(score, "walked(0)", 0);
        cases.takesAs(score, "walked(2)", 2);
        for (String call : Call.each("walked(?)", "-1 3 149 150 MIN MAX")) {
            cases.takesAs(score, call, NONE);
            cases.takesAs(Scores.notes(3), call, NONE);
        }
        cases.takes(Scores.notes(3), "walked(0)", NONE);
        Score then = score.with("drop(0)", Scores.note(0, 0, 70), "value(1, 0, 0)", "drop(2)");
        cases.answers(then, "walked(0)", 0, "walked(1)", 1, "walked(2)", 2, "walked(3)", NONE, "walk()", 2, "walked(0)", 3,
            "walked(1)", 1, "walked(2)", NONE);
        cases.answers(score.with("drop(0)", "drop(1)", "drop(2)", "walk()"), "walked(0)", NONE);
        cases.answers(Scores.FULL_EVENTS.with("walk()"), "walked(149)", 119, "walked(150)", NONE);
    }

    private static void over() {
        cases.about("Terms", "0 OVER: it BEGINS in a BAR, and its TIME ends behind that (EVENT, BAR);");
        Score twoBars = Score.of("part(0)", "bar(1, 4)", "bar(1, 4)");
        finds(twoBars.with(Scores.rest(0, 0), Scores.rest(0, 1)));
        finds(twoBars.with("put(0, 0, 3, 0, 1, 0)"), OVER, 0, 0);
        finds(twoBars.with("put(0, 0, 3, 0, 3, 0)", "put(0, 1, 3, 0, 3, 0)", Scores.rest(0, 2)));
        finds(twoBars.with("put(0, 0, 3, 0, 3, 0)", Scores.rest(0, 1), "put(0, 2, 3, 0, 3, 0)"), OVER, 1, 0);
        finds(twoBars.with(Scores.rest(0, 0), "put(0, 1, 3, 0, 1, 0)"), OVER, 1, 1, LONG, 0, -1);
        finds(twoBars.with(Scores.rest(0, 0), Scores.rest(0, 1), Scores.rest(0, 2)), LONG, 0, -1);
        finds(Score.of("part(0)", Scores.rest(0, 0)), LONG, 0, -1);
        finds(twoBars.with(Scores.rest(0, 0), "put(0, 1, 2, 60, 0, 2)", Scores.rest(0, 2), "put(0, 3, 4, 60, 0, 2)"));
        Score last = Scores.FULL_BARS.with(23, i -> Scores.rest(0, i)).with("put(0, 23, 3, 0, 2, 1)");
        finds(last, OVER, 23, 23, LONG, 0, -1);
    }

    private static void overByTheLeast() {
        cases.about("Terms", "0 OVER: it BEGINS in a BAR, and its TIME ends behind that (EVENT, BAR);");
        // Three eighths in the time of two are a quarter, to the last fraction; 49ths are just beside it.
        Score triplets = Score.of("part(0)", "bar(1, 4)").with(3, i -> "put(0, " + i + ", 3, 0, 3, 0)")
            .with("tuplet(0, 0, 3, 3, 2, 3)");
        finds(triplets);
        Score seven = Score.of("part(0)", "bar(1, 4)", "put(0, 0, 3, 0, 2, 2)");
        finds(seven.with("tuplet(0, 0, 1, 7, 4, 4)"));
        finds(seven.with("tuplet(0, 0, 1, 7, 5, 4)"), OVER, 0, 0, LONG, 0, -1);
        Score squeezed = Score.of("part(0)", "bar(1, 1)", "put(0, 0, 3, 0, 0, 0)", "put(0, 1, 3, 0, 5, 2)",
            "tuplet(0, 1, 1, 7, 1, 5)", "tuplet(0, 1, 1, 7, 1, 5)");
        cases.answers(squeezed, "time(1, 2)", 1, "time(1, 3)", 896);
        finds(squeezed.with("drop(0)", "bar(1, 32)", "put(0, 0, 3, 0, 0, 0)", "put(0, 2, 3, 0, 5, 0)"), OVER, 3, 1,
            LONG, 0, -1, SUM, 0, -1, SUM, 1, -1);
    }

    private static void tie() {
        cases.about("Terms", "1 TIE: a NOTE is TIED, and the next EVENT of the VOICE that is neither GRACE nor BREATH is "
            + "none, or no NOTE, or lacks one of its pitches (EVENT, -1);");
        Score two = Score.of("part(0)", "bar(1, 2)", Scores.note(0, 0, 60), "put(0, 1, 1, 60, 2, 0)", "chord(1, 64)");
        finds(two);
        finds(two.with("tie(0, true)"));
        finds(two.with("tie(1, true)"), TIE, 1, -1);
        finds(two.with("tie(0, true)", "shift(0, 4)"));
        finds(two.with("tie(0, true)", "shift(0, 1)"), TIE, 0, -1);
        finds(two.with("tie(0, true)", "shift(0, -1)"), TIE, 0, -1);
        finds(two.with("tie(0, true)", "tie(0, false)", "shift(0, 1)"));
        Score chordFirst = Score.of("part(0)", "bar(1, 2)", "put(0, 0, 1, 60, 2, 0)", "chord(0, 64)", "tie(0, true)",
            "put(0, 1, 1, 60, 2, 0)");
        finds(chordFirst, TIE, 0, -1);
        finds(chordFirst.with("chord(1, 63)"), TIE, 0, -1);
        finds(chordFirst.with("chord(1, 62)", "chord(1, 64)", "chord(1, 70)"));
        Score rest = Score.of("part(0)", "bar(1, 2)", Scores.note(0, 0, 60), "tie(0, true)", Scores.rest(0, 1));
        finds(rest, TIE, 0, -1);
        finds(rest.with("drop(1)", Scores.note(1, 0, 60), Scores.note(1, 1, 60)), TIE, 0, -1, SHORT, 0, -1);
        finds(Score.of("part(0)", Scores.note(0, 0, 60), "tie(0, true)", "bar(1, 4)"), TIE, 0, -1);
    }

    private static void tieOverGraces() {
        cases.about("Terms", "the next EVENT of the VOICE that is neither GRACE nor BREATH");
        Score tied = Score.of("part(0)", "bar(1, 2)", Scores.note(0, 0, 60), "tie(0, true)", "put(0, 1, 2, 60, 2, 0)",
            "put(0, 2, 4, 0, 2, 0)", "put(0, 3, 2, 61, 2, 0)");
        finds(tied.with("value(0, 1, 0)"), TIE, 0, -1);
        finds(tied.with(Scores.note(0, 4, 60)));
        finds(tied.with(Scores.note(0, 4, 61)), TIE, 0, -1);
        finds(tied.with(Scores.rest(0, 4)), TIE, 0, -1);
        Score grace = Score.of("part(0)", "bar(1, 4)", "put(0, 0, 2, 60, 2, 0)", "tie(0, true)", Scores.note(0, 1, 60));
        finds(grace);
        finds(grace.with("shift(0, 1)"), TIE, 0, -1);
        finds(grace.with("drop(1)"), TIE, 0, -1, SHORT, 0, -1);
        Score far = Score.of("part(0)", "bar(1, 2)", Scores.note(0, 0, 60), "tie(0, true)")
            .with(38, i -> "put(0, 1, 4, 0, 2, 0)");
        finds(far.with(Scores.note(0, 39, 60)));
        finds(far.with(Scores.note(0, 39, 61)), TIE, 0, -1);
    }

    /** By KIND of PART: the least and the most written pitch that is heard in its range. */
    private static final int[][] WRITTEN = {{21, 108}, {33, 120}, {28, 82}, {35, 89}, {42, 101}};

    private static void rangeOfEachKind() {
        cases.about("Terms", "2 RANGE: one of its pitches is HEARD below LEAST or above MOST (EVENT, -1)");
        for (int kind = 0; kind < WRITTEN.length; kind++) {
            Score part = Score.of("part(" + kind + ")", "bar(1, 4)");
            finds(part.with(Scores.note(0, 0, WRITTEN[kind][0])));
            finds(part.with(Scores.note(0, 0, WRITTEN[kind][0] - 1)), RANGE, 0, -1);
            finds(part.with(Scores.note(0, 0, WRITTEN[kind][1])));
            finds(part.with(Scores.note(0, 0, WRITTEN[kind][1] + 1)), RANGE, 0, -1);
        }
        Score drum = Score.of("part(5)", "bar(1, 4)");
        finds(drum.with(Scores.note(0, 0, 0)));
        finds(drum.with(Scores.note(0, 0, 127)));
    }

    private static void rangeOfChords() {
        cases.about("Terms", "2 RANGE: one of its pitches is HEARD below LEAST or above MOST (EVENT, -1)");
        Score chord = Score.of("part(2)", "bar(1, 4)", "put(0, 0, 1, 28, 2, 0)", "chord(0, 82)");
        finds(chord);
        finds(chord.with("chord(0, 83)"), RANGE, 0, -1);
        finds(chord.with("shift(0, -1)"), RANGE, 0, -1);
        finds(chord.with("shift(0, 1)"), RANGE, 0, -1);
        Score six = Score.of("part(2)", "bar(1, 4)", "put(0, 0, 1, 78, 2, 0)", "chord(0, 79)", "chord(0, 80)",
            "chord(0, 81)", "chord(0, 82)");
        finds(six.with("chord(0, 127)"), RANGE, 0, -1);
        finds(six.with("shift(0, -1)", "chord(0, 82)"));
        finds(Score.of("part(2)", "put(0, 0, 2, 27, 2, 0)"), RANGE, 0, -1);
        finds(Score.of("part(2)", "put(0, 0, 2, 28, 2, 0)"));
    }

    private static void rangeUnderOctaves() {
        cases.about("Terms", "the pitches of all from the one to the other are HEARD 12 higher (each such LINE).");
        Score low = Score.of("part(0)", "bar(1, 4)", Scores.note(0, 0, 9));
        finds(low, RANGE, 0, -1);
        finds(low.with("line(2, 0, 0)"));
        finds(low.with("shift(0, -1)", "line(2, 0, 0)"), RANGE, 0, -1);
        finds(low.with("shift(0, 87)", "line(2, 0, 0)"));
        finds(low.with("shift(0, 88)", "line(2, 0, 0)"), RANGE, 0, -1);
        finds(low.with("shift(0, 75)", "line(2, 0, 0)", "line(2, 0, 0)"));
        finds(low.with("shift(0, 76)", "line(2, 0, 0)", "line(2, 0, 0)"), RANGE, 0, -1);
    }

    private static void rangeAsksUpToTheFirst() {
        cases.about("Terms", "pitch by pitch, from the lowest on, HEARD is asked, then LEAST, then, if it is not below "
            + "that, MOST, up to the first that is out.");
        Score lowHorn = Score.of("part(4)", "put(0, 0, 1, 41, 2, 0)", "chord(0, 42)", "chord(0, 101)", "chord(0, 102)",
            "chord(0, 103)");
        int both = 1101 + 100000;
        cases.answers(lowHorn.with("check()"), "trace()", both);
        cases.answers(lowHorn.with("shift(0, 1)", "check()"), "trace()", 3L * both);
        cases.answers(lowHorn.with("shift(0, -1)", "line(2, 0, 0)", "check()"), "trace()", 3L * both);
        Score inRange = Score.of("part(4)", "put(0, 0, 1, 42, 2, 0)", "chord(0, 101)", Scores.note(0, 1, 60),
            Scores.rest(0, 2), "put(0, 3, 2, 60, 2, 0)");
        cases.answers(inRange.with("check()"), "trace()", 4L * both);
        cases.answers(inRange.with("check()", "check()"), "trace()", 8L * both);
        cases.answers(Score.of("part(4)", Scores.rest(0, 0), "check()"), "trace()", 0);
    }

    private static void shortAndLong() {
        cases.about("Terms", "Behind its EVENTS each VOICE that has some: 3 SHORT, 4 LONG: their TIME in all is less, "
            + "more than all BARS (VOICE, -1).");
        finds(Score.of("part(0)", "bar(1, 4)"));
        finds(Score.of("part(0)", "bar(1, 4)", Scores.rest(2, 0)));
        finds(Score.of("part(0)", "bar(1, 4)", "bar(1, 32)", Scores.rest(2, 0)), SHORT, 2, -1);
        finds(Score.of("part(0)", "bar(1, 4)", Scores.rest(2, 0), "put(2, 1, 3, 0, 5, 0)"), LONG, 2, -1);
        finds(Score.of("part(0)", Scores.rest(1, 0)), LONG, 1, -1);
        finds(Score.of("part(0)", "put(1, 0, 2, 60, 0, 0)", "put(1, 1, 4, 60, 0, 0)"));
        finds(Score.of("part(0)", "bar(1, 32)", "put(1, 0, 2, 60, 0, 0)"), SHORT, 1, -1);
        finds(Score.of("part(0)", "bar(1, 4)", Scores.rest(2, 0), "drop(0)"));
        Score all = Scores.FULL_PARTS.with("bar(1, 4)")
            .with(18, i -> "put(" + i + ", 0, 3, 0, " + (i % 2 == 0 ? 3 : 2) + ", 0)");
        finds(all, SHORT, 0, -1, SHORT, 2, -1, SHORT, 4, -1, SHORT, 6, -1, SHORT, 8, -1, SHORT, 10, -1, SHORT, 12, -1,
            SHORT, 14, -1, SHORT, 16, -1);
        Score least = Score.of("part(0)", "bar(1, 8)", "bar(1, 16)").with(3, i -> "put(0, " + i + ", 3, 0, 3, 0)");
        finds(least.with("tuplet(0, 0, 3, 6, 3, 4)"));
        finds(least.with("tuplet(0, 0, 3, 7, 3, 4)"), OVER, 2, 0, SHORT, 0, -1, SUM, 0, -1);
        finds(least.with("tuplet(0, 0, 3, 7, 4, 4)"), OVER, 1, 0, OVER, 2, 1, LONG, 0, -1, SUM, 0, -1);
    }

    private static void sum() {
        cases.about("Terms", "5 SUM: the sum over its EVENTS of WRITTEN TIME, times m / n of its INNER one where they lie "
            + "in that, is not n UNITS (TUPLET, -1).");
        int[] all = {3, 5, 6, 7};
        for (int n : all) {
            for (int unit = 0; unit <= 5; unit++) {
                int u = unit;
                Score units = Score.of("part(0)", "bar(" + n + ", " + (1 << unit) + ")")
                    .with(n, i -> "put(0, " + i + ", 3, 0, " + u + ", 0)");
                String tuplet = ", " + n + ", 1, " + unit + ")";
                cases.answers(units.with("tuplet(0, 0, " + n + tuplet, "check()"), "finding(1, 0)", NONE,
                    "finding(0, 0)", SHORT);
                cases.answers(units.with("tuplet(0, 0, " + (n - 1) + tuplet, "check()"), "finding(1, 0)", SUM,
                    "finding(1, 1)", 0, "finding(1, 2)", -1);
                cases.answers(units.with("put(0, 1, 3, 0, 5, 0)", "tuplet(0, 0, " + (n + 1) + tuplet, "check()"),
                    "finding(1, 0)", SUM);
                cases.answers(units.with("put(0, 1, 2, 60, 0, 0)", "tuplet(0, 0, " + (n + 1) + tuplet, "check()"),
                    "finding(1, 0)", NONE);
            }
        }
        Score dotted = Score.of("part(0)", "bar(1, 4)", "put(0, 0, 3, 0, 3, 1)", "put(0, 1, 3, 0, 3, 1)",
            "tuplet(0, 0, 2, 3, 2, 3)");
        finds(dotted);
        finds(dotted.with("value(1, 3, 2)"), OVER, 1, 0, LONG, 0, -1, SUM, 0, -1);
    }

    private static void sumWithInnerOnes() {
        cases.about("Terms", "times m / n of its INNER one where they lie in that");
        Score nested = Score.of("part(0)", "bar(1, 2)", Scores.rest(0, 0)).with(3, i -> "put(0, 1, 3, 0, 3, 0)")
            .with(Scores.rest(0, 4));
        finds(nested.with("tuplet(0, 0, 5, 3, 2, 2)", "tuplet(0, 1, 3, 3, 2, 3)"));
        finds(nested.with("tuplet(0, 1, 3, 3, 2, 3)", "tuplet(0, 0, 5, 3, 2, 2)"));
        finds(nested.with("tuplet(0, 0, 5, 3, 2, 2)"), OVER, 4, 0, LONG, 0, -1, SUM, 0, -1);
        finds(nested.with("tuplet(0, 0, 5, 3, 2, 2)", "tuplet(0, 1, 3, 3, 1, 3)"), SHORT, 0, -1, SUM, 0, -1);
        Score three = Score.of("part(0)", "bar(1, 4)").with(3, i -> "put(0, 0, 3, 0, 3, 0)");
        finds(three.with("tuplet(0, 0, 3, 3, 2, 3)"));
        finds(three.with("tuplet(0, 0, 3, 3, 2, 3)", "tuplet(0, 0, 3, 3, 2, 3)"), SHORT, 0, -1, SUM, 0, -1);
        // The earlier of two over the same events is around the later one: 3 / 8 times 6 / 3 is 3 quarters.
        Score twice = three.with("tuplet(0, 0, 3, 3, 1, 2)", "tuplet(0, 0, 3, 3, 6, 3)");
        finds(twice);
        finds(twice.with("untuplet(0)"), LONG, 0, -1);
        finds(twice.with("untuplet(1)"), SHORT, 0, -1, SUM, 0, -1);
    }

    private static void openAndBack() {
        cases.about("Terms", "Then by LINES: 6 OPEN: it ends nowhere; 7 BACK: the end BEGINS ahead of the beginning "
            + "(LINE, -1).");
        Score s = Score.of("part(0)", "bar(1, 2)", "put(0, 0, 2, 60, 2, 0)", Scores.note(0, 1, 60), Scores.note(0, 2, 60),
            Scores.note(1, 0, 60), Scores.note(1, 1, 60));
        for (int kind = 0; kind <= 3; kind++) {
            String line = "line(" + kind + ", ";
            finds(s.with(line + "1, NONE)"), OPEN, 0, -1);
            finds(s.with(line + "2, 1)"), BACK, 0, -1);
            finds(s.with(line + "1, 2)"));
            finds(s.with(line + "1, 1)"));
            finds(s.with(line + "1, 0)"));
            finds(s.with(line + "2, 0)"), BACK, 0, -1);
            finds(s.with(line + "4, 2)"));
            finds(s.with(line + "2, 4)"));
            finds(s.with(line + "4, 1)"), BACK, 0, -1);
            finds(s.with(line + "2, 3)"), BACK, 0, -1);
        }
        finds(s.with("line(0, 1, NONE)", "line(0, 2, 1)", "line(0, 0, 1)", "line(3, 2, NONE)"), OPEN, 0, -1, BACK, 1, -1,
            OPEN, 3, -1);
        finds(s.with("line(0, 1, 2)", "drop(2)", Scores.note(0, 2, 60)), OPEN, 0, -1);
        finds(s.with("line(0, 2, NONE)", "drop(2)", Scores.note(0, 2, 60)));
        finds(s.with(30, i -> "line(0, 0, 1)").with("end(29, NONE)"), OPEN, 29, -1);
    }

    private static void order() {
        cases.about("Terms", "in this order: by VOICES, in each by PLACES, each EVENT by these:");
        Score s = Score.of("part(2)", "part(0)", "bar(1, 4)", "bar(1, 4)", "put(3, 0, 0, 20, 1, 0)",
            "put(0, 0, 0, 27, 1, 0)", "tie(0, true)", "tie(1, true)", Scores.note(0, 1, 83), "put(3, 0, 3, 0, 3, 0)",
            "line(0, 1, NONE)", "line(1, 2, 1)", "tuplet(3, 0, 1, 3, 2, 2)", "tuplet(0, 0, 1, 3, 2, 2)");
        finds(s, OVER, 1, 0, TIE, 1, -1, RANGE, 1, -1, OVER, 2, 1, RANGE, 2, -1, LONG, 0, -1, OVER, 0, 0, TIE, 0, -1,
            RANGE, 0, -1, LONG, 3, -1, SUM, 0, -1, SUM, 1, -1, OPEN, 0, -1, BACK, 1, -1);
    }

    private static void check() {
        cases.about("Promise 26", "Looks for FINDINGS: how many (the first 100 are kept).");
        finds(Score.of());
        finds(Score.of("part(0)", "bar(1, 1)"));
        finds(Scores.notes(4).with("bar(1, 1)", "bar(1, 1)", "check()", Scores.rest(0, 4), Scores.rest(0, 5),
            "put(0, 6, 3, 0, 1, 0)"));
    }

    private static void finding() {
        cases.about("Promise 27", "Of FINDING i of the latest check(): 0 its KIND, 1 of what, 2 BAR; NONE: none such. "
            + "BAD: what.");
        Score two = Scores.notes(2).with("put(0, 2, 3, 0, 0, 0)", "bar(1, 4)", "bar(1, 4)", "bar(1, 4)", "check()");
        int[] want = {OVER, 2, 2, LONG, 0, -1};
        for (int i = 0; i < want.length; i++) {
            cases.takesAs(two, "finding(" + i / 3 + ", " + i % 3 + ")", want[i]);
        }
        for (String call : Call.each("finding(?, 0)", "-1 2 99 100 MIN MAX")) {
            cases.takesAs(two, call, NONE);
        }
        cases.takesAs(two, "finding(2, 1)", NONE);
        cases.takesAs(two, "finding(2, 2)", NONE);
        cases.refuses(two, BAD, Call.each("finding(0, ?)", "-1 3 MIN MAX"));
        cases.refuses(two, BAD, Call.each("finding(2, ?)", "-1 3 MIN MAX"));
        cases.refuses(two, BAD, Call.each("finding(-1, ?)", "-1 3"));
        cases.refuses(Score.of(), BAD, "finding(0, 3)", "finding(0, -1)");
        cases.takes(Score.of(), "finding(0, 2)", NONE);
        cases.takes(Scores.notes(1), "finding(0, 0)", NONE);
        Score later = two.with("drop(2)", "drop(1)", "value(0, 2, 1)");
        cases.answers(later, "finding(0, 0)", OVER, "finding(0, 1)", 2, "finding(1, 0)", LONG, "count(6)", 2, "check()", 2,
            "finding(0, 1)", 0, "finding(1, 0)", SHORT);
        cases.answers(two.with("drop(2)", "drop(1)", "drop(0)", "check()"), "finding(0, 0)", NONE, "count(6)", 0);
    }

    private static void findingsKept() {
        cases.about("Promise 26", "(the first 100 are kept)");
        for (int many : new int[] {99, 100, 101, 150}) {
            Score graces = Score.of("part(0)", "part(0)")
                .with(many, i -> "put(" + i / 40 + ", " + i % 40 + ", 2, 0, 2, 0)");
            cases.takes(graces, "check()", many);
            Score then = graces.with("check()");
            cases.answers(then, "count(6)", many, "finding(98, 1)", 98, "finding(99, 1)", many > 99 ? 99 : NONE,
                "finding(99, 0)", many > 99 ? RANGE : NONE, "finding(100, 0)", NONE, "finding(100, 1)", NONE,
                "finding(149, 1)", NONE, "finding(0, 1)", 0);
        }
    }

    private static void equal() {
        cases.about("Promise 28", "1, 0. BAD.");
        Score s = RICH.with("part(5)");
        for (int voice = 0; voice <= 8; voice++) {
            cases.takesAs(s, "equal(" + voice + ", " + voice + ")", 1);
        }
        cases.takesAs(s, "equal(2, 8)", 1);
        cases.takesAs(s, "equal(0, 4)", 0);
        cases.takesAs(s, "equal(0, 2)", 0);
        cases.takesAs(s, "equal(2, 0)", 0);
        cases.refuses(s, BAD, Call.each("equal(?, 0)", "-1 9 18 MIN MAX"));
        cases.refuses(s, BAD, Call.each("equal(0, ?)", "-1 9 18 MIN MAX"));
        cases.refuses(s, BAD, "equal(-1, -1)", "equal(9, 9)", "equal(MIN, MAX)");
        Score full = Score.of("part(0)").with(40, i -> Scores.rest(0, i)).with(39, i -> Scores.rest(1, i));
        cases.takes(full, "equal(0, 1)", 0);
        cases.takes(full, "equal(1, 0)", 0);
        cases.takes(full.with(Scores.note(1, 39, 60)), "equal(0, 1)", 0);
        cases.takes(full.with(Scores.rest(1, 39)), "equal(0, 1)", 1);
    }

    private static void equalEvents() {
        cases.about("Promise 28", "Whether two VOICES have alike EVENTS, PLACE by PLACE: KIND, pitches, VALUE, DOTS, TIED");
        Score alike = Score.of("part(0)", "part(5)").with(5, i -> "put(0, " + i + ", " + i + ", 60, 2, 1)")
            .with(5, i -> "put(5, " + i + ", " + i + ", " + (i > 2 ? -9 : 60) + ", 2, 1)").with("chord(1, 64)",
            "chord(6, 64)");
        same(alike, 1);
        for (String change : new String[] {"shift(5, 1)", "shift(6, 1)", "shift(7, -1)", "chord(6, 65)", "value(8, 3, 1)",
            "value(9, 2, 0)", "value(5, 2, 2)", "tie(5, true)", "tie(6, true)", "tie(7, true)", "drop(9)", "drop(5)",
            Scores.rest(5, 0), Scores.rest(5, 5)}) {
            same(alike.with(change), 0);
        }
        same(alike.with("drop(9)", "put(5, 4, 3, 0, 2, 1)"), 0);
        same(alike.with("drop(8)", "put(5, 4, 3, 0, 2, 1)"), 0);
        same(alike.with("drop(5)", "put(5, 0, 2, 60, 2, 1)"), 0);
        same(alike.with("drop(5)", "put(5, 0, 1, 60, 2, 1)"), 0);
        same(alike.with("drop(6)", "put(5, 1, 1, 60, 2, 1)", "chord(10, 63)"), 0);
        same(alike.with("drop(6)", "put(5, 1, 1, 60, 2, 1)", "chord(10, 64)"), 1);
        same(alike.with("tie(0, true)", "tie(5, true)"), 1);
        same(alike.with("line(2, 0, 1)", "bar(1, 4)"), 1);
    }

    private static void same(Score score, int answer) {
        cases.takes(score, "equal(0, 5)", answer);
        cases.takes(score, "equal(5, 0)", answer);
    }

    private static void equalTuplets() {
        cases.about("Promise 28", "and TUPLETS with the same n, m, UNIT over the same PLACES, in the same order of their "
            + "numbers");
        Score plain = Score.of("part(0)", "part(0)").with(4, i -> Scores.rest(0, i)).with(4, i -> Scores.rest(5, i));
        Score one = plain.with("tuplet(0, 1, 2, 3, 2, 2)");
        same(one, 0);
        same(one.with("tuplet(5, 1, 2, 3, 2, 2)"), 1);
        for (String other : new String[] {"0, 2, 3, 2, 2", "2, 2, 3, 2, 2", "1, 1, 3, 2, 2", "1, 3, 3, 2, 2", "1, 2, 6, 2, 2",
            "1, 2, 3, 1, 2", "1, 2, 3, 2, 3"}) {
            same(one.with("tuplet(5, " + other + ")"), 0);
        }
        Score two = one.with("tuplet(0, 0, 4, 5, 4, 2)");
        same(two.with("tuplet(5, 1, 2, 3, 2, 2)"), 0);
        same(two.with("tuplet(5, 1, 2, 3, 2, 2)", "tuplet(5, 0, 4, 5, 4, 2)"), 1);
        same(two.with("tuplet(5, 0, 4, 5, 4, 2)", "tuplet(5, 1, 2, 3, 2, 2)"), 0);
        same(two.with("tuplet(5, 1, 2, 3, 2, 2)", "tuplet(5, 0, 4, 5, 4, 2)", "tuplet(5, 0, 1, 3, 2, 2)"), 0);
        same(two.with("untuplet(0)", "untuplet(1)"), 1);
        same(two.with("untuplet(0)", "tuplet(5, 0, 4, 5, 4, 2)", "tuplet(5, 1, 2, 3, 2, 2)",
            "tuplet(0, 1, 2, 3, 2, 2)"), 1);
        same(two.with("tuplet(5, 1, 2, 3, 2, 2)", "tuplet(5, 0, 4, 5, 4, 2)", Scores.rest(1, 0),
            "tuplet(1, 0, 1, 7, 2, 2)"), 1);
        Score between = one.with(Scores.rest(1, 0), "tuplet(1, 0, 1, 7, 2, 2)");
        same(between, 0);
        same(between.with("tuplet(5, 1, 2, 3, 2, 2)"), 1);
        cases.takes(Scores.FULL_TUPLETS, "equal(0, 0)", 1);
        same(Score.of("part(0)", "part(0)").with(10, i -> Scores.rest(0, i)).with(10, i -> Scores.rest(5, i))
            .with(10, i -> "tuplet(0, " + i + ", 1, 3, 2, 2)").with(10, i -> "tuplet(5, " + i + ", 1, 3, 2, 2)"), 1);
        same(plain.with("tuplet(0, 0, 4, 3, 2, 2)", "tuplet(0, 0, 4, 5, 4, 2)", "tuplet(5, 0, 4, 5, 4, 2)",
            "tuplet(5, 0, 4, 3, 2, 2)"), 0);
    }
}
