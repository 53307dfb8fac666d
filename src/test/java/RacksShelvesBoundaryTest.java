/** Promises 29 to 38 at their bounds: racks and shelves. */
public final class RacksShelvesBoundaryTest {
    private static final int BAD = StaveScore.BAD, NULL = StaveScore.NULL, INDEX = StaveScore.INDEX, CAST = StaveScore.CAST;
    private static final int STORE = StaveScore.STORE, SIZE = StaveScore.SIZE;
    private static final int MIN = Integer.MIN_VALUE, MAX = Integer.MAX_VALUE;
    private static final String NO_ROW_NUMBER = "-1 4 MIN MAX";
    private static final Score RICH = Scores.RICH;
    private static final Cases cases = new Cases("RacksShelvesBoundaryTest");

    public static void main(String[] args) {
        rack();
        rackIsNew();
        rackIsRefused();
        hold();
        holdIsRefused();
        racksTakeTheirKind();
        held();
        slide();
        slideOfNone();
        slideIsRefused();
        shelf();
        shelfIsRefused();
        layOfVoice();
        layOfRack();
        layPlaces();
        layIsBad();
        item();
        lift();
        liftLowestBits();
        copy();
        copyIsRefused();
        play();
        playEnds();
        playOfShelfNumbers();
        cases.finish(29, 38);
    }

    private static void rack() {
        cases.about("Promise 29", "A RACK gets a new ROW of n (20 at most) places: 1. BAD; SIZE.");
        for (int rack = 0; rack <= 3; rack++) {
            for (int kind = 0; kind <= 5; kind++) {
                cases.takes(RICH, "rack(" + rack + ", " + kind + ", 20)", 1);
                cases.takes(RICH, "rack(" + rack + ", " + kind + ", 0)", 1);
            }
            cases.answers(RICH.with("rack(" + rack + ", 5, 20)"), "hold(" + rack + ", 19, 0)", 1,
                "held(" + rack + ", 19)", 0, "hold(" + rack + ", 20, 0)", INDEX);
            cases.answers(RICH.with("rack(" + rack + ", 5, 1)"), "hold(" + rack + ", 0, 0)", 1,
                "hold(" + rack + ", 1, 0)", INDEX);
            cases.answers(RICH.with("rack(" + rack + ", 5, 0)"), "hold(" + rack + ", 0, 0)", INDEX);
        }
    }

    private static void rackIsNew() {
        cases.about("Terms", "At first there is no ROW; a new one has nothing, 0 each, in it.");
        for (int row = 0; row <= 3; row++) {
            cases.answers(Score.of(), "held(" + row + ", 0)", NULL, "item(" + row + ", 0)", -2001,
                "hold(" + row + ", 0, -1)", NULL);
            for (int i = 0; i < 20; i++) {
                cases.answers(RICH.with("rack(" + row + ", 5, 20)"), "held(" + row + ", " + i + ")", NULL);
            }
            for (int i = 0; i < 60; i++) {
                cases.answers(RICH.with("shelf(" + row + ", 3, 60)"), "item(" + row + ", " + i + ")", 0);
            }
        }
        cases.answers(RICH.with("rack(0, 5, 3)"), "held(0, 0)", NULL, "held(0, 1)", NULL, "held(0, 2)", NULL,
            "held(2, 0)", 4);
        cases.answers(RICH.with("shelf(0, 0, 3)"), "item(0, 0)", 0, "item(0, 1)", 0, "item(0, 2)", 0, "item(2, 1)", 40000);
    }

    private static void rackIsRefused() {
        cases.about("Promise 29", "BAD; SIZE.");
        cases.refuses(RICH, BAD, Call.each("rack(?, 0, 1)", NO_ROW_NUMBER));
        cases.refuses(RICH, BAD, Call.each("rack(0, ?, 1)", "-1 6 MIN MAX"));
        cases.refuses(RICH, BAD, Call.each("rack(0, 0, ?)", "21 MAX"));
        cases.refuses(RICH, SIZE, Call.each("rack(0, 0, ?)", "-1 -20 MIN"));
        cases.refuses(RICH, SIZE, Call.each("rack(3, 5, ?)", "-1 MIN"));
        cases.refuses(RICH, BAD, Call.each("rack(?, 0, -1)", NO_ROW_NUMBER));
        cases.refuses(RICH, BAD, Call.each("rack(0, ?, -1)", "-1 6 MIN MAX"));
        cases.refuses(RICH, BAD, "rack(0, 6, MIN)", "rack(4, 0, MIN)");
    }

    private static void hold() {
        cases.about("Promise 30", "An EVENT (NONE: none) comes to a place of a RACK: 1. BAD; NULL; INDEX; STORE.");
        cases.takesAs(RICH, "hold(0, 0, 1)", 1);
        cases.takes(RICH, "hold(0, 0, 9)", 1);
        cases.takes(RICH, "hold(0, 2, 0)", 1);
        cases.answers(RICH, "hold(0, 0, 9)", 1, "held(0, 0)", 9, "held(0, 1)", NULL, "held(0, 2)", 3, "hold(0, 0, NONE)", 1,
            "held(0, 0)", NULL);
        cases.takesAs(RICH, "hold(0, 1, NONE)", 1);
        cases.takes(RICH, "hold(2, 0, NONE)", 1);
        cases.answers(RICH.with("hold(0, 1, 1)"), "held(0, 0)", 1, "held(0, 1)", 1);
    }

    private static void holdIsRefused() {
        cases.about("Promise 30", "BAD; NULL; INDEX; STORE.");
        cases.refuses(RICH, BAD, Call.each("hold(?, 0, 0)", NO_ROW_NUMBER));
        cases.refuses(RICH, BAD, Call.each("hold(?, 0, NONE)", NO_ROW_NUMBER));
        cases.refuses(RICH, BAD, Call.each("hold(0, 0, ?)", "-2 7 10 150 MIN MAX"));
        cases.refuses(RICH, BAD, Call.each("hold(3, 0, ?)", "-2 7 10 150 MIN MAX"));
        cases.refuses(RICH, BAD, Call.each("hold(0, 9, ?)", "-2 7 10 150 MIN MAX"));
        cases.refuses(RICH, NULL, "hold(3, 0, 0)", "hold(3, 0, NONE)", "hold(3, -1, 0)", "hold(3, MAX, NONE)");
        cases.refuses(RICH, INDEX, Call.each("hold(0, ?, 0)", "-1 3 20 MIN MAX"));
        cases.refuses(RICH, INDEX, Call.each("hold(0, ?, NONE)", "-1 3 20 MIN MAX"));
        cases.refuses(RICH, INDEX, "hold(1, 0, 0)", "hold(1, 0, 3)", "hold(1, 0, NONE)", "hold(2, 2, 0)", "hold(2, -1, 0)");
        cases.refuses(RICH, STORE, "hold(2, 0, 0)", "hold(2, 1, 0)", "hold(2, 1, 1)", "hold(2, 1, 2)");
    }

    private static void racksTakeTheirKind() {
        cases.about("Terms", "they take what is of it, that is NOTES (0) CHORDS and GRACES, too, RESTS (3) BREATHS, too.");
        String[] takes = {"11100", "01000", "00100", "00011", "00001", "11111"};
        for (int kind = 0; kind <= 5; kind++) {
            Score racked = Scores.KINDS.with("rack(1, " + kind + ", 1)");
            for (int event = 0; event <= 4; event++) {
                if (takes[kind].charAt(event) == '1') {
                    cases.takes(racked, "hold(1, 0, " + event + ")", 1);
                } else {
                    cases.refuses(racked, STORE, "hold(1, 0, " + event + ")");
                }
            }
            cases.takes(racked, "hold(1, 0, NONE)", 1);
        }
    }

    private static void held() {
        cases.about("Promise 31", "The EVENT at a place of a RACK. BAD; NULL: no ROW; INDEX; NULL: none is there.");
        cases.takesAs(RICH, "held(0, 0)", 1);
        cases.takesAs(RICH, "held(0, 2)", 3);
        cases.refuses(RICH, BAD, Call.each("held(?, 0)", NO_ROW_NUMBER));
        cases.refuses(RICH, BAD, Call.each("held(?, -1)", NO_ROW_NUMBER));
        cases.refuses(RICH, NULL, Call.each("held(3, ?)", "0 -1 20 MIN MAX"));
        cases.refuses(RICH, INDEX, Call.each("held(0, ?)", "-1 3 20 MIN MAX"));
        cases.refuses(RICH, INDEX, Call.each("held(1, ?)", "0 -1"));
        cases.refuses(RICH, NULL, "held(0, 1)", "held(2, 1)");
    }

    private static void slide() {
        cases.about("Promise 32", "n places of a RACK, from i on, come to those from j on of it, as they were: n.");
        Score five = Scores.KINDS.with("rack(0, 5, 5)").with(4, i -> "hold(0, " + i + ", " + i + ")");
        int[] row = {0, 1, 2, 3, NULL};
        for (int i = 0; i <= 5; i++) {
            for (int j = 0; j <= 5; j++) {
                for (int n = 0; n <= 5 - Math.max(i, j); n++) {
                    String call = "slide(0, " + i + ", " + j + ", " + n + ")";
                    cases.takes(five, call, n);
                    Score then = five.with(call);
                    for (int k = 0; k < 5; k++) {
                        int want = k >= j && k < j + n ? row[k - j + i] : row[k];
                        cases.answers(then, "held(0, " + k + ")", want);
                    }
                }
            }
        }
        cases.takesAs(RICH, "slide(0, 0, 0, 3)", 3);
        cases.takesAs(RICH, "slide(0, 0, 1, 1)", 1, "hold(0, 1, 1)");
    }

    private static void slideOfNone() {
        cases.about("Promise 32", "n places of a RACK, from i on, come to those from j on of it");
        cases.takesAs(RICH, "slide(0, 0, 0, 0)", 0);
        cases.takesAs(RICH, "slide(0, 2, 0, 0)", 0);
        cases.takesAs(RICH, "slide(1, 0, 0, 0)", 0);
    }

    private static void slideIsRefused() {
        cases.about("Promise 32", "BAD; NULL; INDEX: they are not there, or n is below 0.");
        cases.refuses(RICH, BAD, Call.each("slide(?, 0, 0, 1)", NO_ROW_NUMBER));
        cases.refuses(RICH, BAD, Call.each("slide(?, -1, -1, -1)", NO_ROW_NUMBER));
        cases.refuses(RICH, NULL, "slide(3, 0, 0, 0)", "slide(3, 0, 0, 1)", "slide(3, -1, 0, 1)", "slide(3, 0, -1, 1)",
            "slide(3, 0, 0, -1)", "slide(3, MAX, MAX, MAX)");
        cases.refuses(RICH, INDEX, Call.each("slide(0, 0, 0, ?)", "4 -1 MIN MAX"));
        cases.refuses(RICH, INDEX, Call.each("slide(0, ?, 0, 1)", "-1 3 MIN MAX"));
        cases.refuses(RICH, INDEX, Call.each("slide(0, 0, ?, 1)", "-1 3 MIN MAX"));
        cases.refuses(RICH, INDEX, "slide(0, 1, 0, 3)", "slide(0, 0, 1, 3)", "slide(0, 2, 0, 2)", "slide(0, 0, 2, 2)",
            "slide(1, 0, 0, 1)", "slide(0, MAX, 0, MAX)", "slide(0, 0, MAX, MAX)", "slide(0, 1, 1, MAX)",
            "slide(0, MIN, 0, MAX)", "slide(0, 1, 1, MIN)", "slide(0, 1, 1, -1)");
    }

    private static void shelf() {
        cases.about("Promise 33", "A SHELF gets a new ROW of n (60 at most) pitches: 1. BAD; SIZE.");
        for (int shelf = 0; shelf <= 3; shelf++) {
            for (int kind = 0; kind <= 3; kind++) {
                cases.takes(RICH, "shelf(" + shelf + ", " + kind + ", 60)", 1);
                cases.takes(RICH, "shelf(" + shelf + ", " + kind + ", 0)", 1);
            }
            cases.answers(RICH.with("shelf(" + shelf + ", 0, 60)"), "lift(" + shelf + ", 59, 7)", 1,
                "item(" + shelf + ", 59)", 7, "item(" + shelf + ", 60)", -2002);
            cases.answers(RICH.with("shelf(" + shelf + ", 0, 1)"), "item(" + shelf + ", 0)", 0,
                "item(" + shelf + ", 1)", -2002);
            cases.answers(RICH.with("shelf(" + shelf + ", 0, 0)"), "item(" + shelf + ", 0)", -2002);
        }
    }

    private static void shelfIsRefused() {
        cases.about("Promise 33", "BAD; SIZE.");
        cases.refuses(RICH, BAD, Call.each("shelf(?, 0, 1)", NO_ROW_NUMBER));
        cases.refuses(RICH, BAD, Call.each("shelf(0, ?, 1)", "-1 4 5 MIN MAX"));
        cases.refuses(RICH, BAD, Call.each("shelf(0, 0, ?)", "61 MAX"));
        cases.refuses(RICH, SIZE, Call.each("shelf(0, 0, ?)", "-1 -60 MIN"));
        cases.refuses(RICH, SIZE, Call.each("shelf(3, 3, ?)", "-1 MIN"));
        cases.refuses(RICH, BAD, Call.each("shelf(?, 0, -1)", NO_ROW_NUMBER));
        cases.refuses(RICH, BAD, Call.each("shelf(0, ?, -1)", "-1 4 MIN MAX"));
    }

    private static void layOfVoice() {
        cases.about("Promise 34", "First pitches of the EVENTS of a VOICE (of a RACK's EVENTS, if rack; from its first "
            + "place on) come to a SHELF, from its place on: how many.");
        cases.ends(RICH, CAST, "lay(0, false, 0, 0)", 3, "lift(0, 0, 60)", "lift(0, 1, 62)", "lift(0, 2, 64)");
        cases.takesAs(RICH, "lay(4, false, 0, 0)", 2, "lift(0, 0, 100)", "lift(0, 1, 30)");
        cases.takesAs(RICH, "lay(4, false, 0, 1)", 2, "lift(0, 1, 100)", "lift(0, 2, 30)");
        cases.takesAs(RICH, "lay(4, false, 2, 0)", 2, "lift(2, 0, 100)", "lift(2, 1, 30)");
        cases.about("Promise 34", "It ends, with those ahead laid, and tells so by status(): at NULL: the RACK has no "
            + "ROW; then for each by: NULL (an empty place), CAST (a REST), NULL (the SHELF has no ROW), INDEX (it has no "
            + "such place).");
        cases.ends(RICH, INDEX, "lay(4, false, 0, 2)", 1, "lift(0, 2, 100)");
        cases.ends(RICH, INDEX, "lay(0, false, 0, 1)", 2, "lift(0, 1, 60)", "lift(0, 2, 62)");
        cases.ends(RICH, INDEX, "lay(4, false, 1, 0)", 0);
        cases.ends(RICH, NULL, "lay(4, false, 3, 0)", 0);
        cases.ends(RICH, NULL, "lay(0, false, 3, MIN)", 0);
        Score rests = Score.of("part(0)", Scores.rest(0, 0), "put(1, 0, 4, 0, 2, 0)", "shelf(0, 0, 1)");
        for (int voice = 0; voice <= 1; voice++) {
            cases.ends(rests, CAST, "lay(" + voice + ", false, 0, 0)", 0);
            cases.ends(rests, CAST, "lay(" + voice + ", false, 0, -1)", 0);
            cases.ends(rests, CAST, "lay(" + voice + ", false, 3, 0)", 0);
        }
        Score restLast = Score.of("part(0)", Scores.note(0, 0, 60), Scores.rest(0, 1), "shelf(0, 0, 1)");
        cases.ends(restLast, CAST, "lay(0, false, 0, 0)", 1, "lift(0, 0, 60)");
        Score full = Score.of("part(0)", "shelf(0, 3, 60)").with(40, i -> Scores.note(0, i, 127 - i));
        cases.takes(full, "lay(0, false, 0, 20)", 40);
        cases.answers(full.with("lay(0, false, 0, 20)"), "item(0, 19)", 0, "item(0, 20)", 127, "item(0, 59)", 88);
        cases.takes(full.with("shelf(0, 0, 40)"), "lay(0, false, 0, 0)", 40);
        cases.answers(full, "lay(0, false, 0, 21)", 39, "status()", INDEX, "item(0, 59)", 89);
    }

    private static void layOfRack() {
        cases.about("Promise 34", "at NULL: the RACK has no ROW; then for each by: NULL (an empty place), CAST (a REST), "
            + "NULL (the SHELF has no ROW), INDEX (it has no such place).");
        cases.ends(RICH, NULL, "lay(3, true, 0, 0)", 0);
        cases.ends(RICH, NULL, "lay(3, true, 3, 0)", 0);
        cases.ends(RICH, NULL, "lay(3, true, 0, -1)", 0);
        cases.ends(RICH, NULL, "lay(0, true, 0, 0)", 1, "lift(0, 0, 62)");
        cases.ends(RICH, NULL, "lay(0, true, 0, 2)", 1, "lift(0, 2, 62)");
        cases.ends(RICH, INDEX, "lay(0, true, 0, 3)", 0);
        cases.ends(RICH, NULL, "lay(0, true, 3, 0)", 0);
        cases.ends(RICH, CAST, "lay(2, true, 0, 0)", 0);
        cases.ends(RICH, CAST, "lay(2, true, 3, 9)", 0);
        Score emptyFirst = RICH.with("hold(0, 0, NONE)");
        cases.ends(emptyFirst, NULL, "lay(0, true, 0, 9)", 0);
        cases.ends(emptyFirst, NULL, "lay(0, true, 0, 0)", 0);
        Score three = RICH.with("hold(0, 1, 6)");
        cases.ends(three, CAST, "lay(0, true, 0, 0)", 2, "lift(0, 0, 62)", "lift(0, 1, 100)");
        cases.ends(three, CAST, "lay(0, true, 0, 1)", 2, "lift(0, 1, 62)", "lift(0, 2, 100)");
        cases.ends(three, INDEX, "lay(0, true, 0, 2)", 1, "lift(0, 2, 62)");
        Score notes = three.with("hold(0, 2, 2)");
        cases.takesAs(notes, "lay(0, true, 0, 0)", 3, "lift(0, 0, 62)", "lift(0, 1, 100)", "lift(0, 2, 64)");
        cases.ends(notes, INDEX, "lay(0, true, 0, 1)", 2, "lift(0, 1, 62)", "lift(0, 2, 100)");
        cases.ends(notes.with("drop(6)"), NULL, "lay(0, true, 0, 0)", 1, "lift(0, 0, 62)");
    }

    private static void layPlaces() {
        cases.about("Promise 34", "BAD (place is any number).");
        for (String place : new String[] {"-1", "3", "60", "MIN", "MAX"}) {
            cases.ends(RICH, INDEX, "lay(4, false, 0, " + place + ")", 0);
            cases.ends(RICH, INDEX, "lay(0, true, 0, " + place + ")", 0);
            cases.takesAs(RICH, "lay(2, false, 0, " + place + ")", 0);
            cases.takesAs(RICH, "lay(2, false, 3, " + place + ")", 0);
            cases.takesAs(RICH, "lay(1, true, 0, " + place + ")", 0);
            cases.takesAs(RICH, "lay(1, true, 3, " + place + ")", 0);
        }
    }

    private static void layIsBad() {
        cases.about("Promise 34", "BAD (place is any number).");
        cases.refuses(RICH, BAD, Call.each("lay(?, false, 0, 0)", "-1 6 18 MIN MAX"));
        cases.refuses(RICH, BAD, Call.each("lay(?, true, 0, 0)", NO_ROW_NUMBER));
        cases.refuses(RICH, BAD, Call.each("lay(0, false, ?, 0)", NO_ROW_NUMBER));
        cases.refuses(RICH, BAD, Call.each("lay(0, true, ?, 0)", NO_ROW_NUMBER));
        cases.refuses(RICH, BAD, Call.each("lay(3, true, ?, 0)", NO_ROW_NUMBER));
        cases.refuses(RICH, BAD, Call.each("lay(2, false, ?, 0)", NO_ROW_NUMBER));
    }

    private static void item() {
        cases.about("Promise 35", "Pitch i of a SHELF. BAD; NULL; INDEX (told as -2000, -2001, -2002).");
        cases.takesAs(RICH, "item(0, 0)", 60);
        cases.takesAs(RICH, "item(0, 1)", 0);
        cases.takesAs(RICH, "item(0, 2)", -56);
        cases.takesAs(RICH, "item(2, 1)", 40000);
        cases.refuses(RICH, BAD, Call.each("item(?, 0)", NO_ROW_NUMBER));
        cases.refuses(RICH, BAD, Call.each("item(?, -1)", NO_ROW_NUMBER));
        cases.refuses(RICH, NULL, Call.each("item(3, ?)", "0 -1 60 MIN MAX"));
        cases.refuses(RICH, INDEX, Call.each("item(0, ?)", "-1 3 60 MIN MAX"));
        cases.refuses(RICH, INDEX, "item(1, 0)", "item(1, -1)", "item(2, 2)");
    }

    private static void lift() {
        cases.about("Promise 36", "Pitch i of a SHELF becomes the lowest bits of v: 1. BAD; NULL; INDEX.");
        cases.takesAs(RICH, "lift(0, 0, 60)", 1);
        cases.takes(RICH, "lift(0, 2, 5)", 1);
        cases.answers(RICH.with("lift(0, 2, 5)"), "item(0, 0)", 60, "item(0, 1)", 0, "item(0, 2)", 5, "item(2, 1)", 40000);
        cases.refuses(RICH, BAD, Call.each("lift(?, 0, 1)", NO_ROW_NUMBER));
        cases.refuses(RICH, BAD, Call.each("lift(?, -1, MAX)", NO_ROW_NUMBER));
        cases.refuses(RICH, NULL, Call.each("lift(3, ?, 1)", "0 -1 60 MIN MAX"));
        cases.refuses(RICH, INDEX, Call.each("lift(0, ?, 1)", "-1 3 60 MIN MAX"));
        cases.refuses(RICH, INDEX, "lift(1, 0, 1)", "lift(1, -1, 1)", "lift(2, 2, 1)");
    }

    private static void liftLowestBits() {
        cases.about("Terms", "of BYTES (0), SHORTS (1), CHARS (2, 16 bits without sign), INTS (3).");
        int[] v = {0, 127, 128, 255, 256, -1, -128, -129, 32767, 32768, 65535, 65536, -32768, -32769, MIN, MAX};
        for (int kind = 0; kind <= 3; kind++) {
            Score shelf = Score.of("shelf(3, " + kind + ", 1)");
            for (int x : v) {
                int[] kept = {(byte) x, (short) x, x & 0xFFFF, x};
                cases.takes(shelf, "lift(3, 0, " + x + ")", 1);
                cases.answers(shelf.with("lift(3, 0, " + x + ")"), "item(3, 0)", kept[kind]);
            }
        }
        cases.answers(Score.of("shelf(0, 0, 1)"), "lift(0, 0, 128)", 1, "item(0, 0)", -128, "lift(0, 0, -129)", 1,
            "item(0, 0)", 127);
        cases.answers(Score.of("shelf(0, 1, 1)"), "lift(0, 0, 32768)", 1, "item(0, 0)", -32768, "lift(0, 0, -32769)", 1,
            "item(0, 0)", 32767);
        cases.answers(Score.of("shelf(0, 2, 1)"), "lift(0, 0, 65536)", 1, "item(0, 0)", 0, "lift(0, 0, -1)", 1,
            "item(0, 0)", 65535);
        cases.answers(Score.of("shelf(0, 3, 1)"), "lift(0, 0, MIN)", 1, "item(0, 0)", MIN, "lift(0, 0, MAX)", 1,
            "item(0, 0)", MAX);
    }

    private static void copy() {
        cases.about("Promise 37", "n pitches of a SHELF, from i on, come to another one (or the same), from j on, as they "
            + "were: n.");
        Score two = Score.of("shelf(0, 3, 5)", "shelf(3, 3, 3)").with(5, i -> "lift(0, " + i + ", " + (i + 1) + ")");
        for (int i = 0; i <= 5; i++) {
            for (int j = 0; j <= 5; j++) {
                for (int n = 0; n <= 5 - Math.max(i, j); n++) {
                    copies(two, i, 0, j, n);
                    if (n <= 3 - j) {
                        copies(two, i, 3, j, n);
                    }
                }
            }
        }
        copies(two, 2, 3, 0, 3);
        for (int kind = 0; kind <= 3; kind++) {
            Score full = Score.of("shelf(1, " + kind + ", 60)", "shelf(2, " + kind + ", 60)", "lift(1, 0, -3)",
                "lift(1, 59, 9)");
            cases.takes(full, "copy(1, 0, 2, 0, 60)", 60);
            cases.answers(full.with("copy(1, 0, 2, 0, 60)"), "item(2, 0)", kind == 2 ? 65533 : -3, "item(2, 59)", 9,
                "item(2, 30)", 0);
            cases.refuses(full, INDEX, "copy(1, 0, 2, 0, 61)", "copy(1, 1, 2, 0, 60)", "copy(1, 0, 2, 1, 60)");
        }
        cases.takesAs(RICH, "copy(0, 0, 0, 0, 0)", 0);
        cases.takesAs(RICH, "copy(1, 0, 1, 0, 0)", 0);
        cases.takesAs(RICH, "copy(0, 0, 0, 0, 3)", 3);
    }

    private static void copies(Score score, int i, int other, int j, int n) {
        String call = "copy(0, " + i + ", " + other + ", " + j + ", " + n + ")";
        cases.takes(score, call, n);
        Score then = score.with(call);
        for (int k = 0; k < (other == 0 ? 5 : 3); k++) {
            int was = other == 0 ? k + 1 : 0;
            cases.answers(then, "item(" + other + ", " + k + ")", k >= j && k < j + n ? k - j + i + 1 : was);
        }
    }

    private static void copyIsRefused() {
        cases.about("Promise 37", "BAD; NULL: of the first, then of the other one; CAST: of another KIND; INDEX: they are "
            + "not there, or n is below 0.");
        cases.refuses(RICH, BAD, Call.each("copy(?, 0, 0, 0, 1)", NO_ROW_NUMBER));
        cases.refuses(RICH, BAD, Call.each("copy(0, 0, ?, 0, 1)", NO_ROW_NUMBER));
        cases.refuses(RICH, BAD, Call.each("copy(3, 0, ?, 0, 1)", NO_ROW_NUMBER));
        cases.refuses(RICH, BAD, Call.each("copy(?, -1, 3, 0, -1)", NO_ROW_NUMBER));
        cases.refuses(RICH, NULL, "copy(3, 0, 0, 0, 1)", "copy(0, 0, 3, 0, 1)", "copy(3, 0, 3, 0, 1)",
            "copy(3, 0, 3, 0, 0)", "copy(0, 9, 3, 0, -1)", "copy(3, MIN, 0, MAX, MIN)");
        cases.refuses(RICH, CAST, "copy(0, 0, 2, 0, 1)", "copy(2, 0, 0, 0, 1)", "copy(0, 0, 1, 0, 0)",
            "copy(0, 9, 2, 0, 1)", "copy(0, 0, 2, -1, 1)", "copy(2, 0, 0, 0, -1)", "copy(0, MAX, 1, MIN, MIN)");
        Score ints = RICH.with("shelf(3, 0, 2)");
        cases.refuses(ints, INDEX, Call.each("copy(0, 0, 3, 0, ?)", "3 4 -1 MIN MAX"));
        cases.refuses(ints, INDEX, Call.each("copy(3, 0, 0, 0, ?)", "3 4 -1 MIN MAX"));
        cases.refuses(ints, INDEX, Call.each("copy(0, ?, 3, 0, 1)", "-1 3 MIN MAX"));
        cases.refuses(ints, INDEX, Call.each("copy(0, 0, 3, ?, 1)", "-1 2 MIN MAX"));
        cases.refuses(ints, INDEX, "copy(0, 2, 3, 0, 2)", "copy(0, 0, 3, 1, 2)", "copy(0, MAX, 3, 0, MAX)",
            "copy(0, 0, 3, MAX, MAX)", "copy(0, 1, 0, 1, MAX)", "copy(0, 0, 0, 1, 3)", "copy(0, MIN, 3, MIN, MIN)",
            "copy(1, 0, 1, 0, 1)");
        for (int kind = 0; kind <= 3; kind++) {
            for (int other = 0; other <= 3; other++) {
                Score rows = Score.of("shelf(0, " + kind + ", 2)", "shelf(1, " + other + ", 2)");
                if (kind == other) {
                    cases.takes(rows, "copy(0, 0, 1, 0, 2)", 2);
                } else {
                    cases.refuses(rows, CAST, "copy(0, 0, 1, 0, 2)");
                }
            }
        }
    }

    private static void play() {
        cases.about("Promise 38", "The NOTES of a VOICE, by PLACES, are shifted so that their lowest pitches become those "
            + "of a SHELF from its first on, one by one: how many were.");
        Score four = RICH.with("shelf(3, 1, 4)", "lift(3, 0, 0)", "lift(3, 1, 124)", "lift(3, 2, 127)", "lift(3, 3, 64)");
        cases.takesAs(four, "play(3, 0)", 4, "shift(0, -60)", "shift(1, 62)", "shift(2, 63)", "shift(5, -1)");
        cases.answers(four.with("play(3, 0)"), "pitch(0, 0)", 0, "pitch(1, 0)", 124, "pitch(1, 1)", 127, "pitch(2, 0)", 127,
            "pitch(5, 0)", 64);
        cases.takesAs(four, "play(3, 4)", 2, "shift(6, -100)", "shift(8, 94)");
        cases.takesAs(four.with("shelf(3, 0, 1)", "lift(3, 0, 70)"), "play(3, 1)", 1);
        cases.about("Promise 38", "RESTS are passed over. BAD.");
        Score rests = Score.of("part(0)", "shelf(0, 0, 1)", "lift(0, 0, 5)", Scores.rest(0, 0), "put(0, 1, 4, 0, 2, 0)",
            Scores.note(0, 2, 60), Scores.rest(0, 3));
        cases.takesAs(rests, "play(0, 0)", 1, "shift(2, -55)");
        cases.takesAs(rests.with("drop(2)", "shelf(0, 0, 0)"), "play(0, 0)", 0);
        cases.takesAs(RICH, "play(1, 2)", 0);
        // Without a NOTE nothing of the SHELF is asked for, so that no ROW is missed.
        cases.takesAs(RICH, "play(3, 2)", 0);
        Score full = Score.of("part(0)", "shelf(0, 0, 40)").with(40, i -> Scores.note(0, i, 60));
        cases.takes(full, "play(0, 0)", 40);
        cases.refuses(RICH, BAD, Call.each("play(?, 0)", NO_ROW_NUMBER));
        cases.refuses(RICH, BAD, Call.each("play(0, ?)", "-1 6 18 MIN MAX"));
        cases.refuses(RICH, BAD, Call.each("play(3, ?)", "-1 6 18 MIN MAX"));
        cases.refuses(RICH, BAD, Call.each("play(?, 2)", NO_ROW_NUMBER));
    }

    private static void playEnds() {
        cases.about("Promise 38", "It ends, with those ahead done, and tells so by status(): at NULL (no ROW), INDEX (the "
            + "SHELF has no more; a pitch would be none).");
        cases.ends(RICH, NULL, "play(3, 0)", 0);
        cases.ends(RICH, NULL, "play(3, 4)", 0);
        cases.ends(RICH, INDEX, "play(1, 0)", 0);
        Score three = RICH.with("shelf(3, 1, 3)", "lift(3, 0, 0)", "lift(3, 1, 124)", "lift(3, 2, 127)");
        cases.ends(three, INDEX, "play(3, 0)", 3, "shift(0, -60)", "shift(1, 62)", "shift(2, 63)");
        Score two = RICH.with("shelf(3, 1, 2)", "lift(3, 0, 1)", "lift(3, 1, 2)");
        cases.ends(two, INDEX, "play(3, 0)", 2, "shift(0, -59)", "shift(1, -60)");
        cases.takes(two, "play(3, 4)", 2);
        cases.ends(three.with("lift(3, 1, 125)"), INDEX, "play(3, 0)", 1, "shift(0, -60)");
        cases.ends(three.with("lift(3, 1, -1)"), INDEX, "play(3, 0)", 1, "shift(0, -60)");
        cases.ends(three.with("lift(3, 0, 128)"), INDEX, "play(3, 0)", 0);
        cases.ends(three.with("lift(3, 0, -1)"), INDEX, "play(3, 0)", 0);
        cases.ends(three.with("lift(3, 2, 128)"), INDEX, "play(3, 0)", 2, "shift(0, -60)", "shift(1, 62)");
    }

    private static void playOfShelfNumbers() {
        cases.about("Promise 38", "(the SHELF has no more; a pitch would be none)");
        String[] none = {"-1 -128", "-1 128 -32768 32767", "128 32768 65535", "-1 128 MIN MAX"};
        for (int kind = 0; kind <= 3; kind++) {
            Score shelf = Score.of("part(0)", Scores.note(0, 0, 60), Scores.note(1, 0, 127), Scores.note(2, 0, 0),
                "shelf(0, " + kind + ", 1)");
            for (String lift : Call.each("lift(0, 0, ?)", none[kind])) {
                cases.ends(shelf.with(lift), INDEX, "play(0, 0)", 0);
                cases.ends(shelf.with(lift), INDEX, "play(0, 1)", 0);
                cases.ends(shelf.with(lift), INDEX, "play(0, 2)", 0);
            }
            cases.takes(shelf.with("lift(0, 0, 127)"), "play(0, 0)", 1);
            cases.takes(shelf.with("lift(0, 0, 127)"), "play(0, 2)", 1);
            cases.takes(shelf.with("lift(0, 0, 0)"), "play(0, 1)", 1);
            cases.answers(shelf.with("lift(0, 0, 127)", "play(0, 2)"), "pitch(2, 0)", 127);
        }
    }
}
