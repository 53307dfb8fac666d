/** Promises 18 to 23: tuplets and lines. */
public final class TupletsLinesTest {
    private static final int MAX = Integer.MAX_VALUE;
    private static final Due due = new Due("TupletsLinesTest");

    public static void main(String[] args) {
        tupletIsRefused();
        tupletsInOneAnother();
        tupletsGrowAndShrink();
        theLaterOfTwoAlikeIsInner();
        tupletsAreFull();
        untuplet();
        tupletAt();
        line();
        linesAreFull();
        end();
        lineAt();
        due.finish();
    }

    private static StaveScore withNotes(int many) {
        StaveScore s = new StaveScore();
        s.part(0);
        for (int i = 0; i < many; i++) {
            s.put(0, i, 0, 60 + i, 3, 0);
        }
        return s;
    }

    private static void tupletIsRefused() {
        StaveScore s = withNotes(4);
        int[][] bad = {
            {3, 0, 1, 3, 2, 3}, {-1, 0, 1, 3, 2, 3}, {1, 0, 1, 3, 2, 3}, {0, -1, 2, 3, 2, 3}, {0, 4, 1, 3, 2, 3},
            {0, 0, 5, 3, 2, 3}, {0, 2, 3, 3, 2, 3}, {0, 0, 0, 3, 2, 3}, {0, 0, -1, 3, 2, 3},
            {0, 1, MAX, 3, 2, 3}, {0, MAX, MAX, 3, 2, 3}, {0, MAX, 1, 3, 2, 3},
            {0, 0, 1, 2, 2, 3}, {0, 0, 1, 4, 2, 3}, {0, 0, 1, 8, 2, 3}, {0, 0, 1, 0, 2, 3},
            {0, 0, 1, 3, 0, 3}, {0, 0, 1, 3, 9, 3}, {0, 0, 1, 3, 2, -1}, {0, 0, 1, 3, 2, 6}};
        for (int[] b : bad) {
            String call = "tuplet " + java.util.Arrays.toString(b);
            due.refused(s, call, s.tuplet(b[0], b[1], b[2], b[3], b[4], b[5]), StaveScore.BAD);
        }
        due.is("none came", s.count(4), 0);
        int[] all = {3, 5, 6, 7};
        for (int i = 0; i < 4; i++) {
            due.is("tuplet", s.tuplet(0, i, 1, all[i], i == 0 ? 1 : 8, i == 0 ? 0 : 5), i);
        }
    }

    private static void tupletsInOneAnother() {
        StaveScore s = withNotes(8);
        due.is("outer", s.tuplet(0, 1, 5, 3, 2, 3), 0);
        due.is("inner", s.tuplet(0, 2, 2, 3, 2, 3), 1);
        due.is("another inner one", s.tuplet(0, 4, 2, 3, 2, 3), 2);
        due.refused(s, "in three", s.tuplet(0, 2, 1, 3, 2, 3), StaveScore.STATE);
        due.refused(s, "around two", s.tuplet(0, 0, 8, 3, 2, 3), StaveScore.STATE);
        due.refused(s, "over the outer one's beginning", s.tuplet(0, 0, 2, 3, 2, 3), StaveScore.STATE);
        due.refused(s, "over the outer one's end", s.tuplet(0, 5, 2, 3, 2, 3), StaveScore.STATE);
        due.refused(s, "over an inner one's beginning", s.tuplet(0, 1, 2, 3, 2, 3), StaveScore.STATE);
        due.is("beside the inner ones", s.tuplet(0, 1, 1, 3, 2, 3), 3);
        due.is("beside the outer one", s.tuplet(0, 6, 2, 3, 2, 3), 4);
        due.is("around it, later", s.tuplet(0, 6, 2, 5, 4, 3), 5);
        due.is("in how many", s.at(2, 5), 2);
        due.is("in how many", s.at(0, 5), 0);
        due.is("the outer one lies in none", s.tupletAt(0, 6), 0);
        due.is("the inner one in one", s.tupletAt(2, 6), 1);
        s.untuplet(0);
        due.is("in none any more", s.tupletAt(2, 6), 0);
        due.is("an outer one behind the inner ones", s.tuplet(0, 0, 6, 3, 1, 3), 6);
        due.is("in one again", s.tupletAt(2, 6), 1);
        due.is("time", s.time(4, 2), 1);
        due.is("time", s.time(4, 3), 36);
    }

    private static void tupletsGrowAndShrink() {
        StaveScore s = withNotes(5);
        s.tuplet(0, 1, 3, 3, 2, 3);
        s.tuplet(0, 2, 2, 5, 4, 3);
        s.put(0, 1, 0, 60, 3, 0);
        due.is("ahead of the first", s.tupletAt(0, 1), 2);
        due.is("as many", s.tupletAt(0, 2), 3);
        due.is("not in it", s.at(5, 5), 0);
        s.put(0, 3, 0, 60, 3, 0);
        due.is("ahead of the inner one", s.at(6, 5), 1);
        due.is("the outer one grows", s.tupletAt(0, 2), 4);
        due.is("the inner one does not", s.tupletAt(1, 2), 2);
        due.is("it lies farther", s.tupletAt(1, 1), 4);
        s.put(0, 5, 0, 60, 3, 0);
        due.is("ahead of the last of both", s.at(7, 5), 2);
        due.is("both grow", s.tupletAt(1, 2), 3);
        s.put(0, 7, 0, 60, 3, 0);
        due.is("behind the last", s.at(8, 5), 0);
        due.is("as many", s.tupletAt(0, 2), 5);
        s.drop(1);
        due.is("without its first", s.tupletAt(0, 1), 2);
        due.is("four left", s.tupletAt(0, 2), 4);
        s.drop(2);
        s.drop(7);
        s.drop(3);
        due.is("the inner one is gone", s.tupletAt(1, 0), StaveScore.BAD);
        due.is("one left", s.tupletAt(0, 2), 1);
        s.put(0, 3, 0, 60, 3, 0);
        due.is("behind the only one", s.at(9, 5), 0);
        s.drop(6);
        due.is("gone", s.tupletAt(0, 0), StaveScore.BAD);
        due.is("none there", s.count(4), 0);
        due.is("another voice", s.put(1, 0, 0, 60, 3, 0), 10);
        due.is("tuplet there", s.tuplet(1, 0, 1, 3, 2, 3), 2);
        s.put(0, 0, 0, 60, 3, 0);
        due.is("is left alone", s.tupletAt(2, 1), 0);
    }

    private static void theLaterOfTwoAlikeIsInner() {
        StaveScore s = withNotes(4);
        s.tuplet(0, 1, 2, 3, 2, 3);
        s.tuplet(0, 0, 3, 5, 4, 3);
        due.is("the first lies in the later one", s.tupletAt(0, 6), 1);
        due.is("the later one in none", s.tupletAt(1, 6), 0);
        s.drop(0);
        due.is("now the later one is inner", s.tupletAt(0, 6), 0);
        due.is("now the later one is inner", s.tupletAt(1, 6), 1);
        s.put(0, 1, 0, 60, 3, 0);
        due.is("both grow", s.tupletAt(0, 2), 3);
        due.is("both grow", s.tupletAt(1, 2), 3);
    }

    private static void tupletsAreFull() {
        StaveScore s = withNotes(3);
        for (int i = 0; i < 20; i++) {
            due.is("tuplet", s.tuplet(0, 0, 2, 3, 2, 3), i);
            due.is("untuplet", s.untuplet(i), 2);
        }
        due.refused(s, "20 ever", s.tuplet(0, 0, 2, 3, 2, 3), StaveScore.FULL);
        due.is("none there", s.count(4), 0);

        s = withNotes(20);
        for (int i = 0; i < 20; i++) {
            s.tuplet(0, i, 1, 3, 2, 3);
        }
        due.is("20 there", s.count(4), 20);
        due.is("around many", s.tuplet(0, 0, 20, 3, 2, 3), StaveScore.FULL);
        s.untuplet(0);
        s.untuplet(1);
        due.refused(s, "bad ahead of full", s.tuplet(0, 0, 0, 3, 2, 3), StaveScore.BAD);
        s = withNotes(20);
        for (int i = 0; i < 19; i++) {
            s.tuplet(0, i, 1, 3, 2, 3);
        }
        s.tuplet(0, 0, 2, 3, 2, 3);
        due.refused(s, "state ahead of full", s.tuplet(0, 1, 2, 3, 2, 3), StaveScore.STATE);
    }

    private static void untuplet() {
        StaveScore s = withNotes(3);
        s.tuplet(0, 0, 3, 3, 2, 3);
        due.refused(s, "none such", s.untuplet(1), StaveScore.BAD);
        due.refused(s, "none such", s.untuplet(-1), StaveScore.BAD);
        due.is("time", s.time(2, 1), 6);
        due.is("untuplet", s.untuplet(0), 3);
        due.is("status", s.status(), 0);
        due.is("time", s.time(2, 1), 4);
        due.is("the events stay", s.count(2), 3);
        due.refused(s, "it is gone", s.untuplet(0), StaveScore.BAD);
        due.is("none there", s.count(4), 0);
        due.is("no number comes again", s.tuplet(0, 0, 3, 3, 2, 3), 1);
    }

    private static void tupletAt() {
        StaveScore s = withNotes(1);
        for (int i = 0; i < 4; i++) {
            s.put(2, i, 3, 0, 3, 0);
        }
        s.tuplet(2, 0, 4, 3, 2, 1);
        s.tuplet(2, 1, 2, 7, 8, 4);
        int[] want = {2, 1, 2, 7, 8, 4, 1};
        for (int what = 0; what < want.length; what++) {
            due.is("tupletAt(1, " + what + ")", s.tupletAt(1, what), want[what]);
        }
        due.refused(s, "what", s.tupletAt(1, 7), StaveScore.BAD);
        due.refused(s, "what", s.tupletAt(1, -1), StaveScore.BAD);
        due.refused(s, "none such", s.tupletAt(2, 0), StaveScore.BAD);
        due.refused(s, "none such", s.tupletAt(-1, 0), StaveScore.BAD);
    }

    private static void line() {
        StaveScore s = withNotes(2);
        s.drop(1);
        int[][] bad = {{-1, 0, 0}, {4, 0, 0}, {0, 1, 0}, {0, 0, 1}, {0, 0, 2}, {0, 0, -2}, {0, -1, 0}, {0, -1, -1}};
        for (int[] b : bad) {
            String call = "line " + java.util.Arrays.toString(b);
            due.refused(s, call, s.line(b[0], b[1], b[2]), StaveScore.BAD);
        }
        due.is("none came", s.count(5), 0);
        due.is("line", s.line(0, 0, 0), 0);
        due.is("line", s.line(3, 0, StaveScore.NONE), 1);
        due.is("status", s.status(), 0);
        due.is("lines", s.count(5), 2);
    }

    private static void linesAreFull() {
        StaveScore s = withNotes(3);
        for (int i = 0; i < 30; i++) {
            due.is("line", s.line(i % 4, i % 2, 2), i);
        }
        due.refused(s, "30 ever", s.line(0, 0, 1), StaveScore.FULL);
        due.refused(s, "bad ahead of full", s.line(4, 0, 1), StaveScore.BAD);
        s.drop(0);
        due.is("lines there", s.count(5), 15);
        due.refused(s, "30 ever", s.line(0, 1, 1), StaveScore.FULL);
    }

    private static void end() {
        StaveScore s = withNotes(3);
        s.line(1, 0, 1);
        due.is("ends at another one", s.end(0, 2), 1);
        due.is("there", s.lineAt(0, 2), 2);
        due.is("ends nowhere", s.end(0, StaveScore.NONE), 1);
        due.is("nowhere", s.lineAt(0, 2), StaveScore.NONE);
        due.is("at its beginning", s.end(0, 0), 1);
        due.refused(s, "no event", s.end(0, 3), StaveScore.BAD);
        due.refused(s, "no event", s.end(0, -2), StaveScore.BAD);
        due.refused(s, "no line", s.end(1, 0), StaveScore.BAD);
        due.refused(s, "no line", s.end(-1, 0), StaveScore.BAD);
        due.is("as it was", s.lineAt(0, 2), 0);
        s.drop(0);
        due.refused(s, "a line that is gone", s.end(0, 1), StaveScore.BAD);
    }

    private static void lineAt() {
        StaveScore s = withNotes(3);
        s.line(3, 2, 1);
        int[] want = {3, 2, 1};
        for (int what = 0; what < 3; what++) {
            due.is("lineAt(0, " + what + ")", s.lineAt(0, what), want[what]);
        }
        s.drop(1);
        due.refused(s, "it ends nowhere", s.lineAt(0, 2), StaveScore.NONE, 0);
        due.refused(s, "what", s.lineAt(0, 3), StaveScore.BAD);
        due.refused(s, "what", s.lineAt(0, -1), StaveScore.BAD);
        due.refused(s, "no line", s.lineAt(1, 0), StaveScore.BAD);
        due.refused(s, "no line", s.lineAt(-1, 0), StaveScore.BAD);
    }
}
