/** Promises 18 to 23 at their bounds, and what "Terms" says of TUPLETS and LINES. */
public final class TupletsLinesBoundaryTest {
    private static final int NONE = StaveScore.NONE, BAD = StaveScore.BAD, STATE = StaveScore.STATE, FULL = StaveScore.FULL;
    private static final Score RICH = Scores.RICH;
    private static final Cases cases = new Cases("TupletsLinesBoundaryTest");

    public static void main(String[] args) {
        tupletPlaces();
        tupletNumbers();
        tupletsOfOneVoice();
        tupletsOfOtherVoices();
        laterOneIsInner();
        noEventInThree();
        putIntoTuplets();
        tupletOrderOfRefusals();
        tupletsEver();
        untuplet();
        tupletAt();
        line();
        linesEver();
        end();
        lineAt();
        octaves();
        octavesThatAreNone();
        cases.finish(18, 23);
    }

    private static void tupletPlaces() {
        cases.about("Promise 18", "A TUPLET from PLACE from on, of many EVENTS: its number. BAD: also PLACES that are not "
            + "there, many below 1;");
        Score four = Scores.notes(4);
        cases.takes(four, "tuplet(0, 0, 4, 3, 2, 2)", 0);
        cases.takes(four, "tuplet(0, 0, 1, 3, 2, 2)", 0);
        cases.takes(four, "tuplet(0, 3, 1, 3, 2, 2)", 0);
        cases.answers(four.with("tuplet(0, 3, 1, 3, 2, 2)"), "tupletAt(0, 1)", 3, "tupletAt(0, 2)", 1, "at(2, 5)", 0,
            "at(3, 5)", 1);
        cases.refuses(four, BAD, Call.each("tuplet(0, 0, ?, 3, 2, 2)", "5 0 -1 MIN MAX"));
        cases.refuses(four, BAD, Call.each("tuplet(0, 3, ?, 3, 2, 2)", "2 0 -1 MIN MAX"));
        cases.refuses(four, BAD, Call.each("tuplet(0, ?, 1, 3, 2, 2)", "-1 4 MIN MAX"));
        cases.refuses(four, BAD, "tuplet(0, -1, 2, 3, 2, 2)", "tuplet(0, 4, 0, 3, 2, 2)", "tuplet(0, MAX, MAX, 3, 2, 2)",
            "tuplet(0, MIN, MIN, 3, 2, 2)", "tuplet(0, 1, MAX, 3, 2, 2)", "tuplet(0, MIN, MAX, 3, 2, 2)",
            "tuplet(0, 5, -1, 3, 2, 2)");
        cases.refuses(four, BAD, Call.each("tuplet(?, 0, 1, 3, 2, 2)", "-1 1 2 3 MIN MAX"));
        Score full = Score.of("part(0)").with(40, i -> Scores.rest(0, i));
        cases.takes(full, "tuplet(0, 0, 40, 3, 2, 2)", 0);
        cases.takes(full, "tuplet(0, 39, 1, 3, 2, 2)", 0);
        cases.refuses(full, BAD, "tuplet(0, 0, 41, 3, 2, 2)", "tuplet(0, 40, 1, 3, 2, 2)", "tuplet(0, 39, 2, 3, 2, 2)");
    }

    private static void tupletNumbers() {
        cases.about("Terms", "n (3, 5, 6 or 7) in the time of m (1 .. 8), with a UNIT 0 .. 5 (as VALUES).");
        for (int n : new int[] {3, 5, 6, 7}) {
            for (int m = 1; m <= 8; m++) {
                String call = "tuplet(0, 0, 1, " + n + ", " + m + ", " + (m + n) % 6 + ")";
                cases.takes(Scores.notes(1), call, 0);
                cases.answers(Scores.notes(1).with(call), "tupletAt(0, 3)", n, "tupletAt(0, 4)", m,
                    "tupletAt(0, 5)", (m + n) % 6);
            }
        }
        cases.refuses(Scores.notes(2), BAD, Call.each("tuplet(0, 0, 1, ?, 2, 2)", "0 1 2 4 8 9 -3 -1 MIN MAX"));
        cases.refuses(Scores.notes(2), BAD, Call.each("tuplet(0, 0, 1, 3, ?, 2)", "0 9 -1 MIN MAX"));
        cases.refuses(Scores.notes(2), BAD, Call.each("tuplet(0, 0, 1, 3, 2, ?)", "-1 6 MIN MAX"));
        cases.takes(Scores.notes(1), "tuplet(0, 0, 1, 3, 1, 0)", 0);
        cases.takes(Scores.notes(1), "tuplet(0, 0, 1, 7, 8, 5)", 0);
    }

    private static void tupletsOfOneVoice() {
        cases.about("Terms", "Of two in a VOICE either none of their EVENTS are the same, or all those of one (the INNER "
            + "one; if all of both are, the later one) are those of the other one, too.");
        Score middle = Scores.notes(8).with("tuplet(0, 2, 4, 3, 2, 2)");
        for (int from = 0; from < 8; from++) {
            for (int many = 1; many <= 8 - from; many++) {
                int to = from + many;
                boolean apart = to <= 2 || from >= 6;
                boolean inside = from >= 2 && to <= 6;
                boolean around = from <= 2 && to >= 6;
                String call = "tuplet(0, " + from + ", " + many + ", 5, 4, 2)";
                if (apart || inside || around) {
                    cases.takes(middle, call, 1);
                    cases.answers(middle.with(call), "tupletAt(0, 6)", around && !inside ? 1 : 0,
                        "tupletAt(1, 6)", inside ? 1 : 0);
                } else {
                    cases.refuses(middle, STATE, call);
                }
            }
        }
        cases.about("Promise 18", "STATE: not as told with others;");
        cases.refuses(middle, STATE, "tuplet(0, 1, 2, 3, 2, 2)", "tuplet(0, 5, 2, 3, 2, 2)", "tuplet(0, 1, 4, 3, 2, 2)");
    }

    private static void tupletsOfOtherVoices() {
        cases.about("Terms", "Of two in a VOICE either none of their EVENTS are the same");
        Score two = Scores.notes(3).with(3, i -> Scores.rest(1, i)).with("tuplet(0, 0, 2, 3, 2, 2)",
            "tuplet(0, 0, 2, 3, 2, 2)");
        cases.takes(two, "tuplet(1, 1, 2, 3, 2, 2)", 2);
        cases.takes(two, "tuplet(1, 0, 1, 3, 2, 2)", 2);
        cases.answers(two.with("tuplet(1, 0, 1, 3, 2, 2)"), "tupletAt(2, 6)", 0, "at(3, 5)", 1, "at(0, 5)", 2);
        cases.refuses(two, STATE, "tuplet(0, 1, 2, 3, 2, 2)", "tuplet(0, 0, 1, 3, 2, 2)");
    }

    private static void laterOneIsInner() {
        cases.about("Terms", "(the INNER one; if all of both are, the later one)");
        Score alike = Scores.notes(3).with("tuplet(0, 0, 2, 3, 2, 2)", "tuplet(0, 0, 2, 5, 4, 2)");
        cases.answers(alike, "tupletAt(0, 6)", 0, "tupletAt(1, 6)", 1, "at(0, 5)", 2, "at(2, 5)", 0);
        cases.answers(alike.with("untuplet(0)"), "tupletAt(1, 6)", 0, "at(0, 5)", 1);
        cases.answers(alike.with("untuplet(1)"), "tupletAt(0, 6)", 0, "at(0, 5)", 1);
        Score around = Scores.notes(3).with("tuplet(0, 1, 1, 3, 2, 2)", "tuplet(0, 0, 2, 5, 4, 2)");
        cases.answers(around, "tupletAt(0, 6)", 1, "tupletAt(1, 6)", 0);
        cases.answers(around.with("drop(0)"), "tupletAt(0, 6)", 0, "tupletAt(1, 6)", 1);
        cases.answers(around.with("drop(0)", "untuplet(0)"), "tupletAt(1, 6)", 0);
    }

    private static void noEventInThree() {
        cases.about("Terms", "No EVENT lies in three.");
        Score nested = Scores.notes(6).with("tuplet(0, 0, 5, 3, 2, 2)", "tuplet(0, 1, 2, 3, 2, 2)");
        cases.refuses(nested, STATE, "tuplet(0, 1, 1, 3, 2, 2)", "tuplet(0, 2, 1, 3, 2, 2)", "tuplet(0, 1, 2, 3, 2, 2)",
            "tuplet(0, 0, 5, 3, 2, 2)", "tuplet(0, 0, 6, 3, 2, 2)", "tuplet(0, 0, 3, 3, 2, 2)", "tuplet(0, 1, 4, 3, 2, 2)");
        cases.takes(nested, "tuplet(0, 0, 1, 3, 2, 2)", 2);
        cases.takes(nested, "tuplet(0, 3, 1, 3, 2, 2)", 2);
        cases.takes(nested, "tuplet(0, 3, 2, 3, 2, 2)", 2);
        cases.takes(nested, "tuplet(0, 5, 1, 3, 2, 2)", 2);
        cases.refuses(nested, STATE, "tuplet(0, 4, 2, 3, 2, 2)");
        cases.takes(nested.with("untuplet(1)"), "tuplet(0, 1, 1, 3, 2, 2)", 2);
        cases.takes(nested.with("untuplet(0)"), "tuplet(0, 0, 6, 3, 2, 2)", 2);
        cases.takes(nested.with("drop(1)", "drop(2)"), "tuplet(0, 0, 4, 3, 2, 2)", 2);
    }

    private static void putIntoTuplets() {
        cases.about("Terms", "An EVENT that is put behind the first EVENT of a TUPLET, and not behind its last one, lies "
            + "in it.");
        Score outerAndInner = Scores.notes(6).with("tuplet(0, 1, 4, 3, 2, 2)", "tuplet(0, 2, 2, 5, 4, 2)");
        int[] liesIn = {0, 0, 1, 2, 1, 0, 0};
        for (int place = 0; place <= 6; place++) {
            Score then = outerAndInner.with("put(0, " + place + ", 3, 0, 2, 0)");
            boolean inOuter = liesIn[place] >= 1;
            boolean inInner = liesIn[place] == 2;
            cases.answers(then, "at(6, 5)", liesIn[place], "tupletAt(0, 1)", place <= 1 ? 2 : 1,
                "tupletAt(0, 2)", inOuter ? 5 : 4, "tupletAt(1, 1)", place <= 2 ? 3 : 2, "tupletAt(1, 2)", inInner ? 3 : 2);
        }
        Score single = Scores.notes(1).with("tuplet(0, 0, 1, 3, 2, 2)");
        cases.answers(single.with(Scores.rest(0, 0)), "at(1, 5)", 0, "tupletAt(0, 1)", 1, "tupletAt(0, 2)", 1);
        cases.answers(single.with(Scores.rest(0, 1)), "at(1, 5)", 0, "tupletAt(0, 1)", 0, "tupletAt(0, 2)", 1);
        cases.answers(single.with(Scores.rest(1, 0)), "at(1, 5)", 0, "tupletAt(0, 1)", 0, "tupletAt(0, 2)", 1);
    }

    private static void tupletOrderOfRefusals() {
        cases.about("Promise 18", "BAD: also PLACES that are not there, many below 1; STATE: not as told with others; "
            + "FULL.");
        Score four = Scores.notes(4).with("tuplet(0, 1, 2, 3, 2, 2)");
        cases.refuses(four, STATE, "tuplet(0, 0, 2, 3, 2, 2)");
        cases.refuses(four, BAD, "tuplet(0, 0, 2, 4, 2, 2)", "tuplet(0, 0, 2, 3, 9, 2)", "tuplet(0, 0, 2, 3, 2, 6)",
            "tuplet(0, 2, 3, 3, 2, 2)");
        cases.refuses(Scores.FULL_TUPLETS.with("untuplet(0)", "untuplet(1)", "untuplet(2)"), FULL,
            "tuplet(0, 0, 3, 3, 2, 2)");
        Score fullAndNested = Score.of("part(0)").with(22, i -> Scores.rest(0, i))
            .with(19, i -> "tuplet(0, " + i + ", 1, 3, 2, 2)").with("tuplet(0, 0, 2, 3, 2, 2)");
        cases.refuses(fullAndNested, STATE, "tuplet(0, 1, 2, 3, 2, 2)", "tuplet(0, 0, 1, 3, 2, 2)");
        cases.refuses(fullAndNested, BAD, "tuplet(0, 1, 2, 4, 2, 2)", "tuplet(0, 1, 0, 3, 2, 2)",
            "tuplet(3, 0, 1, 3, 2, 2)");
        cases.refuses(fullAndNested, FULL, "tuplet(0, 2, 1, 3, 2, 2)", "tuplet(0, 20, 1, 3, 2, 2)");
    }

    private static void tupletsEver() {
        cases.about("Terms", "TUPLETS (20 ever) are of a VOICE");
        Score oneLess = Score.of("part(0)").with(22, i -> Scores.rest(0, i))
            .with(19, i -> "tuplet(0, " + i + ", 1, 3, 2, 2)");
        cases.takes(oneLess, "tuplet(0, 19, 1, 3, 2, 2)", 19);
        cases.refuses(Scores.FULL_TUPLETS, FULL, "tuplet(0, 20, 2, 3, 2, 2)", "tuplet(0, 0, 20, 3, 2, 2)",
            "tuplet(0, 19, 1, 3, 2, 2)");
        cases.refuses(Scores.FULL_TUPLETS.with("untuplet(19)", "untuplet(0)"), FULL, "tuplet(0, 19, 1, 3, 2, 2)");
        cases.refuses(Scores.FULL_TUPLETS.with("drop(19)"), FULL, "tuplet(0, 19, 1, 3, 2, 2)");
        cases.answers(Scores.FULL_TUPLETS, "tupletAt(19, 1)", 19, "tupletAt(20, 1)", BAD, "count(4)", 20);
    }

    private static void untuplet() {
        cases.about("Promise 19", "A TUPLET is gone: how many EVENTS it had. BAD.");
        cases.takes(RICH, "untuplet(0)", 4);
        cases.takes(RICH, "untuplet(1)", 2);
        cases.answers(RICH.with("untuplet(0)"), "tupletAt(0, 0)", BAD, "tupletAt(1, 6)", 0, "at(1, 5)", 1, "at(0, 5)", 0,
            "count(4)", 1, "count(2)", 9, "untuplet(0)", BAD, "tuplet(0, 0, 4, 3, 2, 2)", 3);
        cases.answers(RICH.with("untuplet(1)"), "tupletAt(1, 0)", BAD, "tupletAt(0, 6)", 0, "at(1, 5)", 1, "at(0, 5)", 1);
        cases.refuses(RICH, BAD, Call.each("untuplet(?)", "-1 2 3 20 MIN MAX"));
        cases.takes(Scores.FULL_TUPLETS, "untuplet(19)", 1);
        cases.refuses(Scores.FULL_TUPLETS, BAD, "untuplet(20)");
        Score full = Score.of("part(0)").with(40, i -> Scores.rest(0, i)).with("tuplet(0, 0, 40, 3, 2, 2)");
        cases.takes(full, "untuplet(0)", 40);
    }

    private static void tupletAt() {
        cases.about("Promise 20", "Of a TUPLET: 0 its VOICE, 1 the first PLACE, 2 how many EVENTS, 3 n, 4 m, 5 UNIT, 6 in "
            + "how many others it lies. BAD.");
        int[][] want = {{0, 0, 4, 3, 2, 2, 0}, {0, 1, 2, 5, 4, 3, 1}};
        for (int tuplet = 0; tuplet <= 1; tuplet++) {
            for (int what = 0; what <= 6; what++) {
                cases.takesAs(RICH, "tupletAt(" + tuplet + ", " + what + ")", want[tuplet][what]);
            }
        }
        cases.refuses(RICH, BAD, Call.each("tupletAt(0, ?)", "-1 7 MIN MAX"));
        cases.refuses(RICH, BAD, Call.each("tupletAt(?, 0)", "-1 2 3 20 MIN MAX"));
        cases.refuses(RICH, BAD, Call.each("tupletAt(?, 6)", "-1 2 3 20 MIN MAX"));
    }

    private static void line() {
        cases.about("Promise 21", "A LINE (to NONE: it ends nowhere): its number. BAD; FULL.");
        for (int kind = 0; kind <= 3; kind++) {
            cases.takes(RICH, "line(" + kind + ", 0, 8)", 4);
            cases.takes(RICH, "line(" + kind + ", 9, 9)", 4);
            cases.takes(RICH, "line(" + kind + ", 3, NONE)", 4);
            cases.answers(RICH.with("line(" + kind + ", 5, 0)"), "lineAt(4, 0)", kind, "lineAt(4, 1)", 5,
                "lineAt(4, 2)", 0);
        }
        cases.answers(RICH.with("line(0, 3, NONE)"), "lineAt(4, 2)", NONE);
        cases.refuses(RICH, BAD, Call.each("line(?, 0, 1)", "-1 4 MIN MAX"));
        cases.refuses(RICH, BAD, Call.each("line(0, ?, 1)", "-1 NONE 7 10 150 MIN MAX"));
        cases.refuses(RICH, BAD, Call.each("line(0, 0, ?)", "-2 7 10 150 MIN MAX"));
        cases.refuses(RICH, BAD, "line(0, NONE, NONE)");
    }

    private static void linesEver() {
        cases.about("Terms", "LINES (30 ever) are of KINDS 0 SLUR, 1 WEDGE, 2 OCTAVE, 3 PEDAL, begin at an EVENT, and end "
            + "at one, or nowhere.");
        Score oneLess = Scores.notes(2).with(29, i -> "line(0, 0, 1)");
        cases.takes(oneLess, "line(3, 1, NONE)", 29);
        cases.about("Promise 21", "BAD; FULL.");
        cases.refuses(Scores.FULL_LINES, FULL, "line(0, 0, 1)", "line(3, 1, NONE)");
        cases.refuses(Scores.FULL_LINES, BAD, "line(4, 0, 1)", "line(0, 2, 1)", "line(0, 0, 2)", "line(0, 0, -2)");
        cases.refuses(Scores.FULL_LINES.with("drop(0)"), FULL, "line(0, 1, 1)");
        cases.answers(Scores.FULL_LINES, "lineAt(29, 0)", 1, "lineAt(30, 0)", BAD, "count(5)", 30);
    }

    private static void end() {
        cases.about("Promise 22", "A LINE ends at another EVENT (or NONE) from now on: 1. BAD.");
        cases.takesAs(RICH, "end(1, 1)", 1);
        cases.takes(RICH, "end(1, 0)", 1);
        cases.takes(RICH, "end(3, 9)", 1);
        cases.takesAs(RICH, "end(3, NONE)", 1);
        cases.answers(RICH, "end(2, NONE)", 1, "lineAt(2, 2)", NONE, "end(2, 9)", 1, "lineAt(2, 2)", 9, "lineAt(2, 1)", 6,
            "lineAt(2, 0)", 0);
        cases.refuses(RICH, BAD, Call.each("end(?, 0)", "-1 0 4 30 MIN MAX"));
        cases.refuses(RICH, BAD, Call.each("end(?, NONE)", "-1 0 4 30 MIN MAX"));
        cases.refuses(RICH, BAD, Call.each("end(1, ?)", "-2 7 10 150 MIN MAX"));
        cases.takes(Scores.FULL_LINES, "end(29, 0)", 1);
        cases.refuses(Scores.FULL_LINES, BAD, "end(30, 0)");
    }

    private static void lineAt() {
        cases.about("Promise 23", "Of a LINE: 0 KIND, 1 where it begins, 2 where it ends (NONE). BAD.");
        int[][] want = {{2, 0, 1}, {0, 6, 8}, {1, 5, NONE}};
        for (int line = 1; line <= 3; line++) {
            for (int what = 0; what <= 2; what++) {
                cases.takesAs(RICH, "lineAt(" + line + ", " + what + ")", want[line - 1][what]);
            }
        }
        cases.refuses(RICH, BAD, Call.each("lineAt(1, ?)", "-1 3 MIN MAX"));
        cases.refuses(RICH, BAD, Call.each("lineAt(?, 0)", "-1 0 4 30 MIN MAX"));
        cases.refuses(RICH, BAD, Call.each("lineAt(?, 2)", "-1 0 4 30 MIN MAX"));
    }

    private static void octaves() {
        cases.about("Terms", "An OCTAVE whose both EVENTS are in one VOICE, the end not ahead: the pitches of all from "
            + "the one to the other are HEARD 12 higher (each such LINE).");
        Score five = Scores.notes(5);
        for (int from = 0; from < 5; from++) {
            for (int to = 0; to < 5; to++) {
                Score then = five.with("line(2, " + from + ", " + to + ")");
                for (int event = 0; event < 5; event++) {
                    boolean under = from <= event && event <= to;
                    cases.answers(then, "heard(" + event + ", 0)", 60 + event + (under ? 12 : 0),
                        "pitch(" + event + ", 0)", 60 + event);
                }
            }
        }
        Score twice = five.with("line(2, 0, 2)", "line(2, 2, 4)", "line(2, 2, 2)");
        cases.answers(twice, "heard(0, 0)", 72, "heard(1, 0)", 73, "heard(2, 0)", 98, "heard(3, 0)", 75, "heard(4, 0)", 76);
        // Graces and breaths begin where the note behind them does: what counts is the place.
        Score graces = Score.of("part(0)", "put(0, 0, 2, 60, 2, 0)", "put(0, 1, 2, 61, 2, 0)", "put(0, 2, 2, 62, 2, 0)");
        cases.answers(graces.with("line(2, 1, 1)"), "heard(0, 0)", 60, "heard(1, 0)", 73, "heard(2, 0)", 62);
        cases.answers(graces.with("line(2, 2, 1)"), "heard(0, 0)", 60, "heard(1, 0)", 61, "heard(2, 0)", 62);
        Score chord = Score.of("part(0)", "put(0, 0, 1, 60, 2, 0)", "chord(0, 64)", "line(2, 0, 0)");
        cases.answers(chord, "heard(0, 0)", 72, "heard(0, 1)", 76);
    }

    private static void octavesThatAreNone() {
        cases.about("Terms", "An OCTAVE whose both EVENTS are in one VOICE, the end not ahead:");
        Score two = Scores.notes(3).with(3, i -> Scores.note(1, i, 70));
        for (String line : new String[] {"line(2, 0, 3)", "line(2, 3, 2)", "line(2, 0, 5)", "line(2, 2, 0)",
            "line(2, 0, NONE)", "line(0, 0, 2)", "line(1, 0, 2)", "line(3, 0, 2)"}) {
            cases.answers(two.with(line), "heard(0, 0)", 60, "heard(1, 0)", 61, "heard(2, 0)", 62, "heard(3, 0)", 70,
                "heard(4, 0)", 70, "heard(5, 0)", 70);
        }
        Score first = two.with("line(2, 0, 2)");
        cases.answers(first, "heard(1, 0)", 73, "heard(3, 0)", 70, "heard(4, 0)", 70, "heard(5, 0)", 70);
        cases.answers(first.with("end(0, 5)"), "heard(1, 0)", 61, "heard(5, 0)", 70);
        cases.answers(first.with("end(0, NONE)"), "heard(1, 0)", 61);
        cases.answers(first.with("drop(2)"), "heard(1, 0)", 61);
        cases.answers(first.with("drop(0)"), "heard(1, 0)", 61);
        cases.answers(first.with(Scores.note(0, 0, 50)), "heard(6, 0)", 50, "heard(0, 0)", 72);
        cases.answers(first.with(Scores.note(0, 2, 50)), "heard(6, 0)", 62);
        cases.answers(first.with(Scores.note(0, 3, 50)), "heard(6, 0)", 50);
    }
}
