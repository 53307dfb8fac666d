/** Promises 39 to 42 at their bounds: failures, status, trace, count. */
public final class ToldBoundaryTest {
    private static final int NONE = StaveScore.NONE, BAD = StaveScore.BAD, STATE = StaveScore.STATE, FULL = StaveScore.FULL;
    private static final int NULL = StaveScore.NULL, INDEX = StaveScore.INDEX, CAST = StaveScore.CAST,
        STORE = StaveScore.STORE;
    private static final int SIZE = StaveScore.SIZE;
    private static final Score RICH = Scores.RICH;
    private static final Cases cases = new Cases("ToldBoundaryTest");

    public static void main(String[] args) {
        failures();
        failuresCount();
        othersAreNoFailures();
        statusOfWhatIsDone();
        statusOfWhatIsRefused();
        statusIsLeft();
        trace();
        traceIsLeft();
        count();
        cases.finish(39, 42);
    }

    private static void failures() {
        cases.about("Promise 39", "FAILURES of a KIND: 0 NULL, 1 INDEX, 2 CAST, 3 STORE, 4 SIZE. BAD.");
        for (int kind = 0; kind <= 4; kind++) {
            cases.answers(RICH, "failures(" + kind + ")", kind + 1, "failures(" + kind + ")", kind + 1);
        }
        for (String call : Call.each("failures(?)", "-1 5 MIN MAX")) {
            cases.answers(RICH, call, BAD, "failures(0)", 1, "failures(1)", 2, "failures(2)", 3, "failures(3)", 4,
                "failures(4)", 5);
            cases.changesAs(RICH, call);
        }
    }

    private static void failuresCount() {
        cases.about("Promise 39", "FAILURES of a KIND: 0 NULL, 1 INDEX, 2 CAST, 3 STORE, 4 SIZE.");
        String[] calls = {"held(3, 0)", "held(0, 3)", "tie(3, true)", "hold(2, 0, 0)", "shelf(0, 0, -1)"};
        int[] codes = {NULL, INDEX, CAST, STORE, SIZE};
        for (int kind = 0; kind <= 4; kind++) {
            cases.refuses(RICH, codes[kind], calls[kind]);
            cases.answers(RICH, calls[kind], codes[kind], calls[kind], codes[kind], "failures(" + kind + ")", kind + 3);
        }
    }

    private static void othersAreNoFailures() {
        cases.about("Terms", "BAD (there is no such; a number is not as told); STATE; FULL; then, as a call meets them, "
            + "and counted as FAILURES: NULL");
        cases.refuses(RICH, BAD, "part(6)", "held(4, 0)", "item(4, 0)", "heard(10, 0)", "asks(2, 0, 0)", "rack(0, 0, 21)");
        cases.refuses(RICH, STATE, "tuplet(0, 1, 1, 3, 2, 2)", "chord(1, 65)");
        cases.refuses(Scores.FULL_PARTS, FULL, "part(0)");
    }

    /** A call of each name that is not refused, on RICH; each is put behind a refused one. */
    private static final String[] GOOD = {"part(0)", "bar(1, 1)", "put(0, 0, 0, 60, 2, 0)", "drop(0)", "chord(1, 66)",
        "pitch(0, 0)", "heard(0, 0)", "shift(0, 1)", "transpose(0, 1)", "tie(0, true)", "value(0, 1, 1)", "at(0, 0)",
        "time(0, 0)", "length(0, 0)", "event(0, 0)", "asks(0, 0, 0)", "tuplet(1, 0, 1, 3, 2, 2)", "untuplet(0)",
        "tupletAt(0, 0)", "line(0, 0, 0)", "end(1, 0)", "lineAt(1, 0)", "walk()", "walked(0)", "check()", "finding(0, 0)",
        "equal(0, 0)", "rack(0, 0, 1)", "hold(0, 0, 0)", "held(0, 0)", "slide(0, 0, 0, 1)", "shelf(0, 0, 1)",
        "lay(1, false, 0, 0)", "item(0, 0)", "lift(0, 0, 0)", "copy(0, 0, 0, 0, 1)", "play(0, 1)"};
    /** Calls that tell that there is none such, and are not refused. */
    private static final String[] NONE_SUCH = {"pitch(0, 1)", "heard(0, 1)", "event(0, 6)", "walked(150)",
        "finding(100, 0)", "lineAt(3, 2)"};

    private static void statusOfWhatIsDone() {
        cases.about("Promise 40", "What the latest call (but status(), failures(), trace(), count()) was refused by, or "
            + "ended at; 0.");
        for (String[] calls : new String[][] {GOOD, NONE_SUCH}) {
            for (String call : calls) {
                for (String refused : new String[] {"part(6)", "held(3, 0)"}) {
                    StaveScore s = RICH.withRefused(refused, call).make();
                    cases.holds(call + " behind " + refused + " leaves status() 0", s.status() == 0);
                }
            }
        }
    }

    private static void statusOfWhatIsRefused() {
        cases.about("Promise 40", "What the latest call (but status(), failures(), trace(), count()) was refused by, or "
            + "ended at; 0.");
        cases.answers(RICH, "part(6)", BAD, "status()", BAD, "status()", BAD);
        cases.answers(RICH, "tuplet(0, 1, 1, 3, 2, 2)", STATE, "status()", STATE);
        cases.answers(Scores.FULL_PARTS, "part(0)", FULL, "status()", FULL);
        cases.answers(RICH, "item(3, 0)", -2001, "status()", NULL, "item(0, 3)", -2002, "status()", INDEX,
            "item(4, 0)", -2000, "status()", BAD);
        cases.answers(RICH, "heard(3, 0)", -2001, "status()", CAST, "heard(10, 0)", -2000, "status()", BAD,
            "asks(2, 0, 0)", -2000, "status()", BAD);
        cases.answers(RICH, "hold(2, 0, 0)", STORE, "status()", STORE, "rack(0, 0, -1)", SIZE, "status()", SIZE);
        cases.answers(RICH, "transpose(0, MAX)", 0, "status()", INDEX, "lay(0, true, 0, 0)", 1, "status()", NULL,
            "lay(0, false, 0, 0)", 3, "status()", CAST, "play(3, 0)", 0, "status()", NULL, "walk()", 9, "status()", 0);
        cases.answers(RICH, "time(10, 0)", BAD, "status()", BAD, "length(6, 0)", BAD, "status()", BAD, "length(0, 2)", BAD,
            "status()", BAD);
    }

    private static void statusIsLeft() {
        cases.about("Promise 40", "(but status(), failures(), trace(), count())");
        for (String refused : new String[] {"part(6)", "held(3, 0)", "rack(0, 0, -1)"}) {
            int code = (int) Call.of(refused).on(RICH.make());
            cases.answers(RICH, refused, code, "failures(0)", RICH.withRefused(refused).make().failures(0),
                "status()", code, "failures(5)", BAD, "status()", code, "count(0)", 2, "status()", code, "count(7)", BAD,
                "status()", code, "trace()", RICH.make().trace(), "status()", code);
        }
        cases.answers(RICH.with("walk()"), "failures(5)", BAD, "status()", 0, "count(-1)", BAD, "status()", 0);
    }

    private static void trace() {
        cases.about("Promise 41", "THE TRACE.");
        long[] heard = {1, 11, 1, 101, 1101, 10000};
        for (int kind = 0; kind <= 5; kind++) {
            cases.answers(Scores.FULL_PARTS, "trace()", 0, "asks(" + kind + ", 2, 60)", kind < 2 || kind > 4 ? 108 : 82,
                "trace()", 0, "asks(" + kind + ", 1, 60)", new int[] {21, 21, 28, 28, 23, 21}[kind],
                "trace()", kind == 4 ? 100000 : 0);
            Score one = Score.of("part(" + kind + ")", Scores.note(0, 0, 60));
            cases.answers(one.with("heard(0, 0)"), "trace()", heard[kind]);
            cases.answers(one.with("heard(0, 0)", "heard(0, 0)", "asks(0, 0, 0)"), "trace()", 3 * heard[kind]);
            cases.answers(one.with("line(2, 0, 0)", "line(2, 0, 0)", "heard(0, 0)"), "trace()", heard[kind]);
            cases.answers(one.with("check()"), "trace()", heard[kind] + (kind == 4 ? 100000 : 0));
        }
    }

    private static void traceIsLeft() {
        cases.about("Promise 41", "THE TRACE.");
        long before = RICH.make().trace();
        for (String call : GOOD) {
            String name = Call.of(call).name();
            if (!name.equals("heard") && !name.equals("asks") && !name.equals("check")) {
                cases.answers(RICH.with(call), "trace()", before);
            }
        }
        cases.answers(RICH, "heard(3, 0)", -2001, "heard(0, 1)", -1000, "heard(10, 0)", -2000, "asks(2, 0, 0)", -2000,
            "asks(0, 3, 0)", -2000, "trace()", before);
    }

    private static void count() {
        cases.about("Promise 42", "0 PARTS, 1 BARS, 2 EVENTS that are there, 3 EVENTS ever, 4 TUPLETS that are there, 5 "
            + "LINES that are there, 6 FINDINGS of the latest check() (more than 100, too). BAD.");
        int[] want = {2, 2, 9, 10, 2, 3};
        for (int what = 0; what < want.length; what++) {
            cases.answers(RICH, "count(" + what + ")", want[what]);
            cases.changesAs(RICH, "count(" + what + ")");
        }
        for (String call : Call.each("count(?)", "-1 7 MIN MAX")) {
            cases.answers(RICH, call, BAD);
            cases.changesAs(RICH, call);
        }
        cases.answers(Scores.FULL_PARTS, "count(0)", 6);
        cases.answers(Scores.FULL_BARS, "count(1)", 24);
        cases.answers(Scores.FULL_EVENTS, "count(2)", 150, "count(3)", 150, "drop(0)", 0, "count(2)", 149, "count(3)", 150);
        cases.answers(Scores.FULL_TUPLETS, "count(4)", 20, "untuplet(0)", 1, "count(4)", 19, "drop(1)", 1, "count(4)", 18);
        cases.answers(Scores.FULL_LINES, "count(5)", 30, "drop(0)", 0, "count(5)", 0);
        Score graces = Score.of("part(0)", "part(0)").with(150, i -> "put(" + i / 40 + ", 0, 2, 0, 2, 0)");
        cases.answers(graces, "count(6)", 0, "check()", 150, "count(6)", 150, "finding(0, 0)", 2, "transpose(0, 60)", 40,
            "count(6)", 150, "check()", 110, "count(6)", 110, "transpose(1, 60)", 40, "check()", 70, "count(6)", 70);
        cases.answers(RICH.with("check()", "check()"), "finding(0, 0)", RICH.with("check()").make().finding(0, 0));
        cases.answers(Score.of(), "count(6)", 0, "check()", 0, "count(6)", 0, "walked(0)", NONE);
    }
}
