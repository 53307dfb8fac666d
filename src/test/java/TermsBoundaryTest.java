/** "Terms" at its bounds: what there is, its numbers and times, and the order of refusals. */
public final class TermsBoundaryTest {
    private static final int NONE = StaveScore.NONE, BAD = StaveScore.BAD, STATE = StaveScore.STATE, FULL = StaveScore.FULL;
    private static final int NULL = StaveScore.NULL, INDEX = StaveScore.INDEX, CAST = StaveScore.CAST,
        STORE = StaveScore.STORE;
    private static final int SIZE = StaveScore.SIZE;
    private static final Score RICH = Scores.RICH;
    private static final Cases cases = new Cases("TermsBoundaryTest");

    public static void main(String[] args) {
        numbersFromZeroOn();
        leastForm();
        leastFormOfTheFinest();
        sixParts();
        voicesOfParts();
        heardByKinds();
        whatAKindHasNot();
        leastAndMost();
        theTrace();
        barsAtMost();
        barsBehindOneAnother();
        eventsEver();
        eventsOfOneVoice();
        pitchesOfNotes();
        pitchesOfChords();
        valuesAndDots();
        writtenTime();
        timeInTuplets();
        timeInTwoTuplets();
        begins();
        rowNumbers();
        orderOfRefusals();
        orderAmongFailures();
        refusedChangesNothing();
        goneAreNoneSuch();
        fiveHundredAndTwelveCalls();
        cases.finish();
    }

    private static void numbersFromZeroOn() {
        cases.about("Terms", "What there is has its number from 0 on, as it comes.");
        cases.answers(Score.of(), "part(3)", 0, "part(0)", 1, "bar(1, 1)", 0, "bar(1, 2)", 1, Scores.note(4, 0, 60), 0,
            Scores.note(0, 0, 60), 1, "tuplet(0, 0, 1, 3, 2, 2)", 0, "tuplet(4, 0, 1, 3, 2, 2)", 1, "line(3, 1, 0)", 0,
            "line(0, 0, NONE)", 1);
        cases.answers(Score.of("part(0)"), "part(6)", BAD, "part(0)", 1, "bar(0, 1)", BAD, "bar(1, 1)", 0,
            "put(0, 1, 0, 60, 2, 0)", BAD, "put(0, 0, 0, 60, 2, 0)", 0, "tuplet(0, 0, 2, 3, 2, 2)", BAD,
            "tuplet(0, 0, 1, 3, 2, 2)", 0, "line(4, 0, 0)", BAD, "line(0, 0, 0)", 0);
    }

    private static void leastForm() {
        cases.about("Terms", "FRACTIONS are told as two numbers, UP and DOWN, in least form (0 is 0 / 1).");
        Score quarters = Scores.notes(8).with("bar(3, 8)", "bar(64, 1)");
        long[][] begins = {{0, 1}, {1, 4}, {1, 2}, {3, 4}, {1, 1}, {5, 4}, {3, 2}, {7, 4}};
        long[][] inBar = {{0, 1}, {1, 4}, {1, 8}, {3, 8}, {5, 8}, {7, 8}, {9, 8}, {11, 8}};
        for (int event = 0; event < 8; event++) {
            cases.answers(quarters, "time(" + event + ", 0)", begins[event][0], "time(" + event + ", 1)", begins[event][1],
                "time(" + event + ", 4)", inBar[event][0], "time(" + event + ", 5)", inBar[event][1]);
        }
        cases.answers(quarters, "length(0, 0)", 2, "length(0, 1)", 1, "length(1, 0)", 0, "length(1, 1)", 1);
        cases.answers(Score.of("part(0)", "put(0, 0, 2, 60, 5, 2)"), "time(0, 0)", 0, "time(0, 1)", 1, "time(0, 2)", 0,
            "time(0, 3)", 1, "time(0, 4)", 0, "time(0, 5)", 1, "length(0, 0)", 0, "length(0, 1)", 1);
    }

    private static void leastFormOfTheFinest() {
        cases.about("Terms", "in least form (0 is 0 / 1).");
        // 7 / 4608, 1 / 800 and 1 / 1568: no finer sum can come, and nothing of it can be cut.
        Score finest = Score.of("part(0)", "put(0, 0, 3, 0, 5, 2)", "put(0, 1, 3, 0, 5, 0)", "put(0, 2, 3, 0, 5, 0)",
            "tuplet(0, 0, 1, 6, 1, 0)", "tuplet(0, 0, 1, 6, 1, 0)", "tuplet(0, 1, 1, 5, 1, 0)", "tuplet(0, 1, 1, 5, 1, 0)",
            "tuplet(0, 2, 1, 7, 1, 0)", "tuplet(0, 2, 1, 7, 1, 0)");
        cases.answers(finest, "length(0, 0)", 19231, "length(0, 1)", 5644800, "time(1, 0)", 7, "time(1, 1)", 4608,
            "time(2, 0)", 319, "time(2, 1)", 115200, "time(2, 2)", 1, "time(2, 3)", 1568);
        Score behind = finest.with("bar(1, 32)", Scores.rest(0, 3));
        cases.answers(behind, "time(3, 0)", 19231, "time(3, 1)", 5644800, "time(3, 4)", 19231, "time(3, 5)", 5644800);
    }

    private static void sixParts() {
        cases.about("Terms", "PARTS (6 at most) are of KINDS 0 PLAIN, 1 LOW, 2 BRASS, 3 HORN, 4 LOW HORN, 5 DRUM;");
        cases.takes(Score.of().with(5, i -> "part(0)"), "part(0)", 5);
        cases.refuses(Score.of().with(6, i -> "part(0)"), FULL, "part(0)", "part(5)");
        cases.takes(Score.of(), "part(0)", 0);
        cases.takes(Score.of(), "part(5)", 0);
        cases.refuses(Score.of(), BAD, "part(-1)", "part(6)");
    }

    private static void voicesOfParts() {
        cases.about("Terms", "Each PART has three VOICES: 3 times the PART's number, and 0, 1, 2.");
        for (int parts = 0; parts <= 6; parts++) {
            Score score = Score.of().with(parts, kind -> "part(" + kind + ")");
            cases.refuses(score, BAD, "length(-1, 0)", "length(" + 3 * parts + ", 0)");
            for (int voice = 0; voice < 3 * parts; voice++) {
                cases.takes(score, "length(" + voice + ", 0)", 0);
            }
        }
        int[] heard = {60, 48, 60, 53, 41, 35};
        for (int voice = 0; voice < 18; voice++) {
            cases.answers(Scores.FULL_PARTS.with(Scores.note(voice, 0, 60)), "heard(0, 0)", heard[voice / 3],
                "at(0, 0)", voice);
        }
    }

    private static void heardByKinds() {
        cases.about("Terms", "HEARD, of a written pitch: PLAIN the pitch (1); LOW up less 12 (10); HORN up less 7 (100); "
            + "LOW HORN up less 12 (1000); DRUM 35 (10000).");
        int[] less = {0, 12, 0, 7, 19};
        for (int kind = 0; kind < less.length; kind++) {
            for (int pitch : new int[] {0, 1, 60, 127}) {
                cases.takes(Score.of("part(" + kind + ")", Scores.note(0, 0, pitch)), "heard(0, 0)", pitch - less[kind]);
                cases.takes(Scores.FULL_PARTS, "asks(" + kind + ", 0, " + pitch + ")", pitch - less[kind]);
            }
        }
        for (int pitch : new int[] {0, 35, 127}) {
            cases.takes(Score.of("part(5)", Scores.note(0, 0, pitch)), "heard(0, 0)", 35);
        }
    }

    private static void whatAKindHasNot() {
        cases.about("Terms", "\"Up\" is what the KIND that stands over it tells; what a KIND has not, it has as that one.");
        Score all = Scores.FULL_PARTS;
        // BRASS has no HEARD, LOW and DRUM no LEAST and no MOST, HORN neither, LOW HORN no MOST.
        cases.takesAs(all, "asks(2, 0, 99)", 99, "asks(0, 0, 99)");
        cases.takesAs(all, "asks(1, 1, 0)", 21);
        cases.takesAs(all, "asks(1, 2, 0)", 108);
        cases.takesAs(all, "asks(5, 1, 0)", 21);
        cases.takesAs(all, "asks(5, 2, 0)", 108);
        cases.takesAs(all, "asks(3, 1, 0)", 28);
        cases.takesAs(all, "asks(3, 2, 0)", 82);
        cases.takesAs(all, "asks(4, 2, 0)", 82);
    }

    private static void leastAndMost() {
        cases.about("Terms", "LEAST and MOST pitch that may be HEARD: PLAIN 21, 108; BRASS 28 and up's MOST less 26; LOW "
            + "HORN up's LEAST less 5 (100000) (and MOST as it is).");
        int[][] want = {{21, 108}, {21, 108}, {28, 82}, {28, 82}, {23, 82}, {21, 108}};
        for (int kind = 0; kind <= 5; kind++) {
            cases.takes(Scores.FULL_PARTS, "asks(" + kind + ", 1, 60)", want[kind][0]);
            cases.takes(Scores.FULL_PARTS, "asks(" + kind + ", 2, 60)", want[kind][1]);
        }
    }

    private static void theTrace() {
        cases.about("Terms", "THE TRACE has the sum of the numbers in brackets, each as often as a KIND's own was asked "
            + "(an up, too).");
        long[][] want = {{1, 0, 0}, {11, 0, 0}, {1, 0, 0}, {101, 0, 0}, {1101, 100000, 0}, {10000, 0, 0}};
        for (int kind = 0; kind <= 5; kind++) {
            for (int what = 0; what <= 2; what++) {
                String call = "asks(" + kind + ", " + what + ", 60)";
                cases.answers(Scores.FULL_PARTS, "trace()", 0);
                cases.answers(Scores.FULL_PARTS.with(call), "trace()", want[kind][what]);
                cases.answers(Scores.FULL_PARTS.with(call, call), "trace()", 2 * want[kind][what]);
            }
        }
        Score all = Scores.FULL_PARTS.with(6, kind -> "asks(" + kind + ", 0, 0)")
            .with(6, kind -> "asks(" + kind + ", 1, 0)");
        cases.answers(all, "trace()", 1 + 11 + 1 + 101 + 1101 + 10000 + 100000);
        cases.answers(Score.of("part(0)").with(400, i -> "asks(0, 0, 0)"), "trace()", 400);
        cases.answers(Score.of("part(4)").with(250, i -> "asks(0, 1, 0)"), "trace()", 25000000L);
    }

    private static void barsAtMost() {
        cases.about("Terms", "BARS (24 at most) have a LENGTH, up / down: down is 1, 2, 4, 8, 16 or 32, up 1 .. 64.");
        cases.takes(Score.of().with(23, i -> "bar(64, 1)"), "bar(64, 1)", 23);
        cases.refuses(Score.of().with(24, i -> "bar(64, 1)"), FULL, "bar(1, 1)");
        for (int down = -1; down <= 65; down++) {
            boolean told = down == 1 || down == 2 || down == 4 || down == 8 || down == 16 || down == 32;
            if (told) {
                cases.takes(Score.of(), "bar(1, " + down + ")", 0);
                cases.takes(Score.of(), "bar(64, " + down + ")", 0);
                cases.refuses(Score.of(), BAD, "bar(0, " + down + ")", "bar(65, " + down + ")");
            } else {
                cases.refuses(Score.of(), BAD, "bar(1, " + down + ")");
            }
        }
    }

    private static void barsBehindOneAnother() {
        cases.about("Terms", "They lie one behind the other from 0 on.");
        Score bars = Score.of("part(0)", "bar(1, 32)", "bar(1, 1)", "bar(3, 2)").with("put(0, 0, 3, 0, 5, 0)",
            "put(0, 1, 3, 0, 0, 0)", "put(0, 2, 3, 0, 0, 1)", "put(0, 3, 3, 0, 0, 0)", "put(1, 0, 3, 0, 0, 0)",
            "put(1, 1, 3, 0, 0, 0)");
        cases.answers(bars, "at(0, 6)", 0, "at(1, 6)", 1, "at(2, 6)", 2, "at(3, 6)", NONE, "at(4, 6)", 0, "at(5, 6)", 1,
            "time(5, 4)", 31, "time(5, 5)", 32, "time(2, 4)", 0, "time(2, 5)", 1, "time(3, 4)", 0, "time(3, 5)", 1);
        Score widest = Score.of("part(0)").with(24, i -> "bar(64, 1)").with(40, i -> "put(0, " + i + ", 3, 0, 0, 2)")
            .with("tuplet(0, 0, 40, 3, 8, 0)", "tuplet(0, 0, 40, 3, 8, 0)");
        cases.answers(widest, "at(39, 6)", 7, "time(39, 0)", 1456, "time(39, 1)", 3, "time(39, 4)", 112, "time(39, 5)", 3);
    }

    private static void eventsEver() {
        cases.about("Terms", "EVENTS (150 ever; no number comes again) lie in a VOICE (40 at once in one), one behind the "
            + "other, at PLACES 0, 1, ..:");
        Score oneLess = Score.of("part(0)", "part(0)").with(149, i -> Scores.rest(i / 40, i % 40));
        cases.takes(oneLess, Scores.rest(3, 29), 149);
        cases.refuses(Scores.FULL_EVENTS, FULL, Scores.rest(3, 30));
        cases.refuses(Scores.FULL_EVENTS.with("drop(149)"), FULL, Scores.rest(3, 29));
        cases.answers(Scores.notes(2).with("drop(1)"), Scores.note(0, 1, 60), 2, "at(1, 0)", BAD, "at(2, 1)", 1);
        cases.answers(Scores.notes(1).with("drop(0)"), Scores.note(0, 0, 60), 1, "at(0, 0)", BAD);
        // Put and dropped one by one: 150 ever, though never two at once.
        Score score = Score.of("part(0)").with(300, i -> i % 2 == 0 ? Scores.rest(0, 0) : "drop(" + i / 2 + ")");
        cases.refuses(score, FULL, Scores.rest(0, 0));
        cases.answers(score, "count(2)", 0, "count(3)", 150);
    }

    private static void eventsOfOneVoice() {
        cases.about("Terms", "(40 at once in one)");
        cases.takes(Score.of("part(0)").with(39, i -> Scores.rest(2, i)), Scores.rest(2, 39), 39);
        Score full = Score.of("part(0)").with(40, i -> Scores.rest(2, i));
        cases.refuses(full, FULL, Scores.rest(2, 40), Scores.rest(2, 0));
        cases.refuses(full, BAD, Scores.rest(2, 41), Scores.rest(2, -1));
        cases.takes(full, Scores.rest(1, 0), 40);
        cases.takes(full.with("drop(39)"), Scores.rest(2, 39), 40);
        cases.refuses(full.with("drop(39)", Scores.rest(2, 0)), FULL, Scores.rest(2, 0));
        for (int kind = 0; kind <= 4; kind++) {
            cases.refuses(full, FULL, "put(2, 0, " + kind + ", 60, 2, 0)");
        }
    }

    private static void pitchesOfNotes() {
        cases.about("Terms", "NOTES have pitches 0 .. 127: one, of a CHORD up to 6, each above the one before.");
        for (int kind = 0; kind <= 2; kind++) {
            for (int pitch : new int[] {0, 127}) {
                Score then = Score.of("part(0)", "put(0, 0, " + kind + ", " + pitch + ", 2, 0)");
                cases.answers(then, "at(0, 3)", 1, "pitch(0, 0)", pitch, "pitch(0, 1)", NONE);
            }
            cases.refuses(Score.of("part(0)"), BAD, "put(0, 0, " + kind + ", -1, 2, 0)",
                "put(0, 0, " + kind + ", 128, 2, 0)");
        }
        cases.answers(Scores.KINDS, "at(3, 3)", 0, "at(4, 3)", 0);
    }

    private static void pitchesOfChords() {
        cases.about("Terms", "one, of a CHORD up to 6, each above the one before.");
        Score chord = Score.of("part(0)", "put(0, 0, 1, 0, 2, 0)");
        cases.answers(chord, "chord(0, 0)", STATE, "chord(0, 1)", 2, "chord(0, 1)", STATE, "chord(0, 2)", 3,
            "chord(0, 3)", 4, "chord(0, 126)", 5, "chord(0, 125)", STATE, "chord(0, 127)", 6, "at(0, 3)", 6,
            "chord(0, 127)", STATE, "pitch(0, 5)", 127, "pitch(0, 4)", 126);
        Score six = Score.of("part(0)", "put(0, 0, 1, 60, 2, 0)").with(5, i -> "chord(0, " + (61 + i) + ")");
        cases.refuses(six, FULL, "chord(0, 66)", "chord(0, 127)");
    }

    private static void valuesAndDots() {
        cases.about("Terms", "All have a VALUE 0 .. 5 (1 / 1, 1 / 2, .., 1 / 32) and DOTS 0 .. 2; NOTES may be TIED.");
        for (int kind = 0; kind <= 4; kind++) {
            String put = "put(0, 0, " + kind + ", 60, ";
            cases.takes(Score.of("part(0)"), put + "0, 0)", 0);
            cases.takes(Score.of("part(0)"), put + "5, 2)", 0);
            cases.refuses(Score.of("part(0)"), BAD, put + "-1, 0)", put + "6, 0)", put + "0, -1)", put + "0, 3)");
            cases.answers(Score.of("part(0)", put + "5, 2)"), "at(0, 7)", 5, "at(0, 8)", 2, "at(0, 4)", 0);
            cases.answers(Scores.KINDS, "tie(" + kind + ", true)", kind <= 2 ? 0 : CAST,
                "at(" + kind + ", 4)", kind <= 2 ? 1 : 0);
        }
    }

    private static void told(Score score, int event, long up, long down) {
        long divisor = divisor(up, down);
        cases.answers(score, "time(" + event + ", 2)", up / divisor, "time(" + event + ", 3)", down / divisor);
    }

    private static long divisor(long a, long b) {
        return b == 0 ? a : divisor(b, a % b);
    }

    private static void writtenTime() {
        cases.about("Terms", "WRITTEN TIME: VALUE; with one DOT 3 / 2, with two 7 / 4 of it; of GRACE and BREATH 0.");
        int[][] dotted = {{1, 1}, {3, 2}, {7, 4}};
        for (int kind = 0; kind <= 4; kind++) {
            for (int value = 0; value <= 5; value++) {
                for (int dots = 0; dots <= 2; dots++) {
                    boolean none = kind == 2 || kind == 4;
                    Score one = Score.of("part(0)", "put(0, 0, " + kind + ", 60, " + value + ", " + dots + ")");
                    told(one, 0, none ? 0 : dotted[dots][0], none ? 1 : (1L << value) * dotted[dots][1]);
                    told(Scores.KINDS.with("value(" + kind + ", " + value + ", " + dots + ")"), kind,
                        none ? 0 : dotted[dots][0], none ? 1 : (1L << value) * dotted[dots][1]);
                }
            }
        }
    }

    private static final int[] TUPLET_N = {3, 5, 6, 7};

    private static void timeInTuplets() {
        cases.about("Terms", "TIME: WRITTEN TIME times m / n of each TUPLET in which it lies.");
        Score shortest = Score.of("part(0)", "put(0, 0, 3, 0, 5, 2)", "put(0, 1, 3, 0, 0, 0)");
        for (int n : TUPLET_N) {
            for (int m = 1; m <= 8; m++) {
                Score then = shortest.with("tuplet(0, 0, 1, " + n + ", " + m + ", 0)");
                told(then, 0, 7L * m, 128L * n);
                told(then, 1, 1, 1);
            }
        }
        cases.answers(Scores.KINDS.with("tuplet(0, 0, 5, 7, 8, 0)"), "time(2, 2)", 0, "time(2, 3)", 1, "time(4, 2)", 0,
            "time(4, 3)", 1);
    }

    private static void timeInTwoTuplets() {
        cases.about("Terms", "times m / n of each TUPLET in which it lies.");
        Score shortest = Score.of("part(0)", "put(0, 0, 3, 0, 5, 2)", "put(0, 1, 3, 0, 0, 0)");
        for (int n : TUPLET_N) {
            for (int inner : TUPLET_N) {
                for (int m : new int[] {1, 7, 8}) {
                    Score then = shortest.with("tuplet(0, 0, 2, " + n + ", " + m + ", 0)",
                        "tuplet(0, 0, 1, " + inner + ", 1, 5)");
                    told(then, 0, 7L * m, 128L * n * inner);
                    told(then, 1, m, n);
                    told(then.with("untuplet(0)"), 0, 7, 128L * inner);
                }
            }
        }
    }

    private static void begins() {
        cases.about("Terms", "It BEGINS at the sum of the TIME of those ahead of it in its VOICE.");
        Score row = Score.of("part(0)", "put(0, 0, 3, 0, 5, 2)", "put(0, 1, 2, 60, 0, 0)", "put(0, 2, 3, 0, 3, 0)",
            "put(0, 3, 3, 0, 3, 0)", "tuplet(0, 2, 1, 7, 6, 3)", "tuplet(0, 0, 3, 5, 4, 3)", Scores.rest(1, 0));
        // 7 / 128 times 4 / 5, then 1 / 8 times 6 / 7 times 4 / 5.
        cases.answers(row, "time(0, 0)", 0, "time(0, 1)", 1, "time(1, 0)", 7, "time(1, 1)", 160, "time(2, 0)", 7,
            "time(2, 1)", 160, "time(3, 0)", 29, "time(3, 1)", 224, "time(4, 0)", 0, "time(4, 1)", 1);
        Score all = Score.of("part(0)").with(40, i -> "put(0, " + i + ", 3, 0, 5, 0)");
        cases.answers(all, "time(39, 0)", 39, "time(39, 1)", 32, "drop(0)", 0, "time(39, 0)", 19, "time(39, 1)", 16);
        cases.answers(all.with("value(0, 0, 0)"), "time(0, 0)", 0, "time(1, 0)", 1, "time(1, 1)", 1, "time(39, 0)", 35,
            "time(39, 1)", 16);
    }

    private static void rowNumbers() {
        cases.about("Terms", "RACKS 0 .. 3 are ROWS of EVENTS, of a KIND (0 .. 4), or any (5):");
        cases.takes(Score.of(), "rack(0, 0, 1)", 1);
        cases.takes(Score.of(), "rack(3, 5, 1)", 1);
        cases.refuses(Score.of(), BAD, "rack(-1, 0, 1)", "rack(4, 0, 1)", "rack(0, -1, 1)", "rack(0, 6, 1)");
        cases.about("Terms", "SHELVES 0 .. 3 are ROWS of pitches: of BYTES (0), SHORTS (1), CHARS (2, 16 bits without "
            + "sign), INTS (3).");
        cases.takes(Score.of(), "shelf(0, 0, 1)", 1);
        cases.takes(Score.of(), "shelf(3, 3, 1)", 1);
        cases.refuses(Score.of(), BAD, "shelf(-1, 0, 1)", "shelf(4, 0, 1)", "shelf(0, -1, 1)", "shelf(0, 4, 1)");
    }

    private static void orderOfRefusals() {
        cases.about("Terms", "Refused, of several the first one here: BAD (there is no such; a number is not as told); "
            + "STATE; FULL;");
        cases.refuses(Scores.FULL_PARTS, BAD, "part(6)");
        cases.refuses(Scores.FULL_BARS, BAD, "bar(1, 3)");
        cases.refuses(Scores.FULL_VOICE, BAD, "put(0, 41, 3, 0, 2, 0)", "put(0, 0, 3, 0, 2, 3)");
        cases.refuses(Scores.FULL_EVENTS, BAD, "put(0, 0, 3, 0, 6, 0)");
        cases.refuses(Scores.FULL_LINES, BAD, "line(0, 0, 9)");
        cases.refuses(Scores.FULL_TUPLETS, BAD, "tuplet(0, 0, 1, 3, 2, 6)");
        Score fullAndCrossed = Score.of("part(0)").with(22, i -> Scores.rest(0, i))
            .with(19, i -> "tuplet(0, " + i + ", 1, 3, 2, 2)").with("tuplet(0, 18, 2, 3, 2, 2)");
        cases.refuses(fullAndCrossed, STATE, "tuplet(0, 19, 2, 3, 2, 2)");
        cases.refuses(fullAndCrossed, BAD, "tuplet(0, 19, 2, 3, 0, 2)");
        cases.refuses(fullAndCrossed, FULL, "tuplet(0, 20, 2, 3, 2, 2)");
        Score six = Score.of("part(0)", "put(0, 0, 1, 60, 2, 0)").with(5, i -> "chord(0, " + (61 + i) + ")");
        cases.refuses(six, STATE, "chord(0, 65)");
        cases.refuses(six, BAD, "chord(0, 128)", "chord(1, 65)");
    }

    private static void orderAmongFailures() {
        cases.about("Terms", "then, as a call meets them, and counted as FAILURES: NULL (there is no ROW, no EVENT), "
            + "INDEX (no such place in a ROW; a pitch would be none), CAST (it is of another KIND), STORE (a RACK does "
            + "not take it), SIZE (below 0).");
        cases.refuses(RICH, CAST, "shift(3, MAX)", "shift(4, MIN)");
        cases.refuses(RICH, NULL, "hold(3, 99, 3)", "held(3, 99)", "slide(3, 9, 9, -1)", "item(3, 99)", "lift(3, 99, 1)",
            "copy(0, 9, 3, 9, -1)");
        cases.refuses(RICH, INDEX, "hold(2, 9, 0)", "hold(1, 0, 3)", "held(0, 3)");
        cases.refuses(RICH, CAST, "copy(0, 9, 2, 9, -1)");
        cases.refuses(RICH, BAD, "hold(3, 99, 7)", "hold(4, 99, 3)", "held(4, 99)", "slide(4, 9, 9, -1)", "item(4, 99)",
            "lift(4, 99, 1)", "copy(4, 9, 3, 9, -1)", "copy(3, 9, 4, 9, -1)", "rack(4, 0, -1)", "rack(0, 6, -1)",
            "shelf(4, 0, -1)", "shelf(0, 4, -1)", "shift(7, MAX)", "transpose(6, MAX)", "play(4, 0)", "play(3, 6)");
        cases.refuses(RICH, STORE, "hold(2, 0, 0)");
        cases.refuses(RICH, SIZE, "rack(3, 0, -1)", "shelf(3, 0, -1)");
    }

    private static void refusedChangesNothing() {
        cases.about("Terms", "What is refused changes nothing but FAILURES and status(), but as told.");
        String[] wild = {"part(MAX)", "bar(MAX, MAX)", "put(MAX, MAX, MAX, MAX, MAX, MAX)", "drop(MAX)", "chord(MAX, MAX)",
            "pitch(MAX, MAX)", "heard(MAX, MAX)", "shift(MAX, MAX)", "transpose(MAX, MAX)", "tie(MAX, true)",
            "value(MAX, MAX, MAX)", "at(MAX, MAX)", "time(MAX, MAX)", "length(MAX, MAX)", "event(MAX, MAX)",
            "asks(MAX, MAX, MAX)", "tuplet(MAX, MAX, MAX, MAX, MAX, MAX)", "untuplet(MAX)", "tupletAt(MAX, MAX)",
            "line(MAX, MAX, MAX)", "end(MAX, MAX)", "lineAt(MAX, MAX)", "finding(MAX, MAX)", "equal(MAX, MAX)",
            "rack(MAX, MAX, MAX)", "hold(MAX, MAX, MAX)", "held(MAX, MAX)", "slide(MAX, MAX, MAX, MAX)",
            "shelf(MAX, MAX, MAX)", "lay(MAX, true, MAX, MAX)", "lay(MAX, false, MAX, MAX)", "item(MAX, MAX)",
            "lift(MAX, MAX, MAX)", "copy(MAX, MAX, MAX, MAX, MAX)", "play(MAX, MAX)"};
        for (String call : wild) {
            cases.refuses(RICH, BAD, call, call.replace("MAX", "MIN"), call.replace("MAX", "-2"));
        }
    }

    private static void goneAreNoneSuch() {
        cases.about("Terms", "EVENTS, TUPLETS that are gone are none such.");
        cases.refuses(RICH, BAD, "drop(7)", "chord(7, 60)", "pitch(7, 0)", "heard(7, 0)", "shift(7, 0)", "tie(7, true)",
            "value(7, 0, 0)", "at(7, 0)", "time(7, 0)", "line(0, 7, 0)", "line(0, 7, NONE)", "line(0, 0, 7)", "end(1, 7)",
            "hold(0, 0, 7)", "untuplet(2)", "tupletAt(2, 0)");
        Score emptied = Scores.notes(1).with("tuplet(0, 0, 1, 3, 2, 2)", "drop(0)");
        cases.refuses(emptied, BAD, "untuplet(0)", "tupletAt(0, 2)", "drop(0)", "at(0, 1)");
    }

    private static void fiveHundredAndTwelveCalls() {
        cases.about("What it is", "An object is used for at most 512 calls after it has been made;");
        StaveScore score = new StaveScore();
        score.part(0);
        score.shelf(0, 0, -1);
        for (int call = 3; call < 512; call++) {
            score.shelf(0, call % 2 == 0 ? 3 : 4, call % 2 == 0 ? -1 : 0);
        }
        cases.holds("the 512th call answers as the first", score.failures(4) == 1 + 254);
    }
}
