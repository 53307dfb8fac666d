/** Promises 24 to 28: walks, what is wrong, voices that are alike. */
public final class WalksFindingsTest {
    private static final int OVER = 0, TIE = 1, RANGE = 2, SHORT = 3, LONG = 4, SUM = 5, OPEN = 6, BACK = 7;
    private static final Due due = new Due("WalksFindingsTest");

    public static void main(String[] args) {
        walk();
        walkedIsAsItWas();
        checkOver();
        checkTie();
        checkRange();
        checkRangeTrace();
        checkShortAndLong();
        checkSum();
        checkSumAroundAnEarlierOne();
        checkLines();
        checkOrder();
        checkKeepsAHundred();
        finding();
        equal();
        equalTuplets();
        equalAmongOtherTuplets();
        due.finish();
    }

    private static StaveScore plain() {
        StaveScore s = new StaveScore();
        s.part(0);
        return s;
    }

    private static void findings(StaveScore s, String call, int... want) {
        due.is(call + ", check()", s.check(), want.length / 3);
        due.is(call + ", status()", s.status(), 0);
        due.is(call + ", count(6)", s.count(6), want.length / 3);
        for (int i = 0; i < want.length; i++) {
            due.is(call + ", finding(" + i / 3 + ", " + i % 3 + ")", s.finding(i / 3, i % 3), want[i]);
        }
        due.is(call + ", no more", s.finding(want.length / 3, 0), StaveScore.NONE);
    }

    private static void walk() {
        StaveScore s = plain();
        s.part(0);
        s.put(4, 0, 2, 60, 2, 0);
        s.put(4, 1, 0, 60, 2, 0);
        s.put(0, 0, 0, 60, 1, 0);
        s.put(0, 1, 4, 60, 1, 0);
        s.put(0, 2, 0, 60, 1, 0);
        s.put(1, 0, 3, 60, 2, 0);
        s.put(1, 1, 3, 60, 2, 0);
        s.put(1, 2, 3, 60, 2, 0);
        int[] want = {2, 5, 0, 1, 6, 3, 4, 7};
        due.is("walk", s.walk(), want.length);
        due.is("status", s.status(), 0);
        for (int i = 0; i < want.length; i++) {
            due.is("walked(" + i + ")", s.walked(i), want[i]);
        }
        due.refused(s, "walked behind", s.walked(want.length), StaveScore.NONE, 0);
        due.refused(s, "walked ahead", s.walked(-1), StaveScore.NONE, 0);
        s.tuplet(1, 0, 3, 3, 1, 2);
        s.walk();
        int[] then = {2, 5, 0, 1, 6, 7, 3, 4};
        for (int i = 0; i < then.length; i++) {
            due.is("walked again(" + i + ")", s.walked(i), then[i]);
        }
    }

    private static void walkedIsAsItWas() {
        StaveScore s = plain();
        s.put(0, 0, 0, 60, 2, 0);
        s.put(0, 1, 0, 60, 2, 0);
        due.is("walk", s.walk(), 2);
        s.drop(0);
        s.put(0, 0, 0, 60, 2, 0);
        due.is("as it was", s.walked(0), 0);
        due.is("as it was", s.walked(1), 1);
        due.is("walk", s.walk(), 2);
        due.is("as it is", s.walked(0), 2);
        s.drop(1);
        due.is("walk", s.walk(), 1);
        due.is("no more", s.walked(1), StaveScore.NONE);
    }

    private static void checkOver() {
        StaveScore s = plain();
        s.bar(1, 4);
        s.bar(1, 4);
        s.bar(1, 2);
        s.put(0, 0, 3, 0, 3, 0);
        s.put(0, 1, 3, 0, 2, 0);
        s.put(0, 2, 3, 0, 3, 0);
        s.put(0, 3, 0, 60, 1, 0);
        findings(s, "over", OVER, 1, 0);
        s.put(0, 3, 3, 0, 3, 0);
        findings(s, "over the last one", OVER, 1, 0, OVER, 3, 2, LONG, 0, -1);
        s.put(0, 5, 3, 0, 0, 0);
        findings(s, "begins in none", OVER, 1, 0, OVER, 3, 2, LONG, 0, -1);
    }

    private static void checkTie() {
        StaveScore s = plain();
        s.bar(1, 1);
        s.put(0, 0, 0, 60, 1, 0);
        s.put(0, 1, 1, 58, 1, 0);
        s.chord(1, 60);
        s.tie(0, true);
        findings(s, "tied to a chord");
        s.shift(1, 1);
        findings(s, "tied to none of its pitches", TIE, 0, -1);
        s.tie(0, false);
        s.tie(1, true);
        findings(s, "tied to nothing", TIE, 1, -1);
        s.put(0, 2, 2, 59, 2, 0);
        s.put(0, 3, 4, 0, 2, 0);
        findings(s, "graces and breaths are passed over", TIE, 1, -1);
        s.put(0, 4, 0, 59, 5, 0);
        s.value(1, 2, 0);
        s.bar(1, 32);
        s.put(0, 2, 3, 0, 2, 0);
        findings(s, "tied to a rest", TIE, 1, -1);
        s.drop(5);
        s.value(1, 1, 0);
        findings(s, "lacks one of them", TIE, 1, -1);
        s.drop(4);
        s.put(0, 4, 1, 59, 5, 0);
        s.chord(6, 61);
        findings(s, "has both");
        s.tie(2, true);
        findings(s, "a grace, too");
        s.shift(2, 1);
        findings(s, "a grace, too", TIE, 2, -1);
    }

    private static void checkRange() {
        StaveScore s = new StaveScore();
        s.part(2);
        s.bar(1, 1);
        s.put(0, 0, 0, 28, 1, 0);
        s.put(0, 1, 1, 28, 1, 0);
        s.chord(1, 82);
        s.put(0, 2, 2, 82, 1, 0);
        findings(s, "in range");
        s.shift(0, -1);
        s.chord(1, 83);
        s.shift(2, 1);
        findings(s, "out of range", RANGE, 0, -1, RANGE, 1, -1, RANGE, 2, -1);
        s.line(2, 0, 0);
        findings(s, "an octave higher", RANGE, 1, -1, RANGE, 2, -1);
    }

    private static void checkRangeTrace() {
        StaveScore s = new StaveScore();
        s.part(4);
        s.put(0, 0, 1, 60, 2, 0);
        s.chord(0, 102);
        s.chord(0, 103);
        due.is("findings", s.check(), 2);
        due.is("two are asked, and the third, which is not out", s.trace(), 2 * 1101 + 2 * 100000);
        s.shift(0, -20);
        due.is("one is below", s.check(), 2);
        due.is("the first is out", s.trace(), 3 * 1101 + 3 * 100000);
    }

    private static void checkShortAndLong() {
        StaveScore s = plain();
        findings(s, "no events");
        s.put(1, 0, 2, 60, 0, 0);
        findings(s, "no time, no bars");
        s.put(2, 0, 3, 60, 2, 0);
        findings(s, "no bars", LONG, 2, -1);
        s.bar(1, 4);
        findings(s, "a grace is short", SHORT, 1, -1);
        s.bar(1, 32);
        findings(s, "short", SHORT, 1, -1, SHORT, 2, -1);
    }

    private static void checkSum() {
        StaveScore s = plain();
        s.bar(1, 2);
        for (int i = 0; i < 3; i++) {
            s.put(0, i, 0, 60, 2, 0);
        }
        s.tuplet(0, 0, 3, 3, 2, 2);
        findings(s, "three of a unit");
        s.value(0, 2, 1);
        s.value(1, 3, 0);
        findings(s, "three units in all");
        s.put(0, 3, 2, 60, 2, 0);
        findings(s, "a grace is nothing");
        s.tuplet(0, 0, 1, 3, 2, 3);
        findings(s, "an inner one", SHORT, 0, -1, SUM, 0, -1);
        s.untuplet(1);
        s.tuplet(0, 0, 3, 3, 2, 2);
        findings(s, "two alike", SHORT, 0, -1, SUM, 0, -1);
        s.untuplet(0);
        findings(s, "the later one");
        s.value(1, 4, 0);
        findings(s, "less", SHORT, 0, -1, SUM, 2, -1);
        s.value(1, 1, 0);
        findings(s, "more", OVER, 1, 0, LONG, 0, -1, SUM, 2, -1);
    }

    private static void checkSumAroundAnEarlierOne() {
        StaveScore s = plain();
        s.bar(1, 2);
        s.put(0, 0, 0, 60, 2, 0);
        for (int i = 1; i < 4; i++) {
            s.put(0, i, 0, 60, 3, 0);
        }
        s.put(0, 4, 0, 60, 2, 0);
        s.tuplet(0, 1, 3, 3, 2, 3);
        s.tuplet(0, 0, 5, 3, 2, 2);
        findings(s, "the inner one came first");
        s.untuplet(0);
        findings(s, "without it", OVER, 4, 0, LONG, 0, -1, SUM, 1, -1);
    }

    private static void checkLines() {
        StaveScore s = plain();
        s.bar(1, 2);
        s.put(0, 0, 2, 60, 2, 0);
        s.put(0, 1, 0, 60, 2, 0);
        s.put(0, 2, 0, 60, 2, 0);
        s.put(1, 0, 0, 60, 1, 0);
        s.line(0, 1, 0);
        s.line(1, 2, 1);
        s.line(2, 2, StaveScore.NONE);
        s.line(3, 2, 3);
        s.line(0, 3, 2);
        findings(s, "lines", BACK, 1, -1, OPEN, 2, -1, BACK, 3, -1);
        s.end(2, 2);
        s.drop(3);
        findings(s, "lines", BACK, 1, -1, OPEN, 3, -1);
    }

    private static void checkOrder() {
        StaveScore s = plain();
        s.bar(1, 4);
        s.put(1, 0, 0, 20, 1, 0);
        s.put(0, 0, 0, 109, 3, 0);
        s.tie(0, true);
        s.line(0, 0, StaveScore.NONE);
        s.tuplet(1, 0, 1, 3, 2, 2);
        s.tuplet(0, 0, 1, 3, 2, 2);
        s.value(0, 1, 2);
        findings(s, "order", RANGE, 1, -1, SHORT, 0, -1, OVER, 0, 0, TIE, 0, -1, RANGE, 0, -1, LONG, 1, -1,
            SUM, 0, -1, SUM, 1, -1, OPEN, 0, -1);
    }

    private static void checkKeepsAHundred() {
        StaveScore s = plain();
        s.bar(64, 1);
        for (int i = 0; i < 120; i++) {
            s.put(i / 40, i % 40, 0, 0, 5, 0);
        }
        due.is("findings", s.check(), 123);
        due.is("all are counted", s.count(6), 123);
        due.is("the last that is kept", s.finding(99, 1), 97);
        due.is("no more are kept", s.finding(100, 1), StaveScore.NONE);
        due.is("no more are kept", s.finding(122, 1), StaveScore.NONE);
        s.transpose(0, 60);
        s.transpose(1, 60);
        s.transpose(2, 60);
        due.is("of the latest", s.count(6), 123);
        due.is("findings", s.check(), 3);
        due.is("of the latest", s.count(6), 3);
        due.is("of the latest", s.finding(3, 0), StaveScore.NONE);
    }

    private static void finding() {
        StaveScore s = plain();
        s.put(0, 0, 3, 0, 2, 0);
        due.is("ahead of any check", s.finding(0, 0), StaveScore.NONE);
        s.check();
        s.drop(0);
        due.is("as it was", s.finding(0, 0), LONG);
        due.refused(s, "no bar", s.finding(0, 2), StaveScore.NONE, 0);
        due.refused(s, "none such", s.finding(1, 0), StaveScore.NONE, 0);
        due.refused(s, "none such", s.finding(-1, 0), StaveScore.NONE, 0);
        due.refused(s, "what", s.finding(0, 3), StaveScore.BAD);
        due.refused(s, "what", s.finding(0, -1), StaveScore.BAD);
        due.refused(s, "what, none such", s.finding(7, 3), StaveScore.BAD);
    }

    private static StaveScore withTwoAlike() {
        StaveScore s = plain();
        s.part(5);
        int[] voices = {0, 4};
        for (int voice : voices) {
            s.put(voice, 0, 1, 60, 2, 1);
            s.put(voice, 1, 3, 60 + voice, 3, 0);
            s.put(voice, 2, 0, 70, 3, 0);
        }
        s.chord(0, 64);
        s.chord(3, 64);
        return s;
    }

    private static void equal() {
        StaveScore s = withTwoAlike();
        due.is("alike", s.equal(0, 4), 1);
        due.is("status", s.status(), 0);
        due.is("itself", s.equal(4, 4), 1);
        due.is("empty ones", s.equal(1, 5), 1);
        due.is("one is empty", s.equal(0, 1), 0);
        due.refused(s, "no voice", s.equal(0, 6), StaveScore.BAD);
        due.refused(s, "no voice", s.equal(-1, 0), StaveScore.BAD);
        s.tie(2, true);
        due.is("tied", s.equal(0, 4), 0);
        s.tie(2, false);
        s.value(1, 4, 0);
        due.is("value", s.equal(0, 4), 0);
        s.value(1, 3, 1);
        due.is("dots", s.equal(0, 4), 0);
        s.value(1, 3, 0);
        s.shift(0, 1);
        due.is("pitches", s.equal(0, 4), 0);
        s.shift(0, -1);
        s.chord(0, 65);
        due.is("one pitch more", s.equal(0, 4), 0);
        due.is("one pitch less", s.equal(4, 0), 0);
        s.chord(3, 65);
        due.is("alike again", s.equal(0, 4), 1);
        s.put(0, 3, 2, 60, 2, 0);
        due.is("one more", s.equal(0, 4), 0);
        s.put(4, 3, 0, 60, 2, 0);
        due.is("kind", s.equal(0, 4), 0);
    }

    private static void equalTuplets() {
        StaveScore s = withTwoAlike();
        s.tuplet(0, 0, 2, 3, 2, 2);
        due.is("a tuplet more", s.equal(0, 4), 0);
        due.is("a tuplet less", s.equal(4, 0), 0);
        s.tuplet(4, 0, 2, 3, 2, 2);
        due.is("alike", s.equal(0, 4), 1);
        int[][] others = {{0, 2, 5, 2, 2}, {0, 2, 3, 4, 2}, {0, 2, 3, 2, 3}, {1, 2, 3, 2, 2}, {0, 3, 3, 2, 2}};
        int number = 1;
        for (int[] o : others) {
            s.untuplet(number);
            number = s.tuplet(4, o[0], o[1], o[2], o[3], o[4]);
            due.is("another " + java.util.Arrays.toString(o), s.equal(0, 4), 0);
        }
        s.untuplet(number);
        s.tuplet(4, 2, 1, 3, 2, 2);
        int second = s.tuplet(4, 0, 2, 3, 2, 2);
        due.is("one more", s.equal(0, 4), 0);
        s.tuplet(0, 2, 1, 3, 2, 2);
        due.is("in another order", s.equal(0, 4), 0);
        s.untuplet(second - 1);
        s.tuplet(4, 2, 1, 3, 2, 2);
        due.is("in the same order", s.equal(0, 4), 1);
    }

    private static void equalAmongOtherTuplets() {
        StaveScore s = withTwoAlike();
        s.put(1, 0, 3, 0, 2, 0);
        s.tuplet(0, 0, 1, 3, 2, 2);
        s.tuplet(0, 1, 1, 5, 2, 2);
        s.tuplet(1, 0, 1, 7, 2, 2);
        s.tuplet(4, 0, 1, 3, 2, 2);
        due.is("the second lacks", s.equal(0, 4), 0);
        due.is("the second lacks", s.equal(4, 0), 0);
        s.tuplet(4, 1, 1, 7, 2, 2);
        due.is("the second is another", s.equal(0, 4), 0);
        s.untuplet(4);
        s.tuplet(4, 1, 1, 5, 2, 2);
        due.is("a third voice's is not looked at", s.equal(0, 4), 1);
        due.is("a third voice's is not looked at", s.equal(4, 0), 1);
    }
}
