/** A score with all that it can take: every promise that has a limit, looked at there. */
public final class FullScoreTest {
    private static final int VOICE = 3;
    private static final Due due = new Due("FullScoreTest");
    private static final StaveScore s = new StaveScore();

    public static void main(String[] args) {
        fill();
        look();
        putAndDrop();
        nothingBehindTheLast();
        due.finish();
    }

    /** Quarters everywhere; twenty of voice 3 in tuplets of their own; thirty octaves over the first event. */
    private static void fill() {
        for (int i = 0; i < 6; i++) {
            s.part(0);
        }
        for (int i = 0; i < 24; i++) {
            s.bar(1, 4);
        }
        for (int i = 0; i < 148; i++) {
            s.put(i / 40, i % 40, 0, 60, 2, 0);
        }
        for (int i = 0; i < 20; i++) {
            s.tuplet(VOICE, i, 1, 3, 2, 2);
        }
        for (int i = 0; i < 30; i++) {
            s.line(2, 0, 0);
        }
        int[] want = {6, 24, 148, 148, 20, 30, 0};
        for (int what = 0; what < want.length; what++) {
            due.is("count(" + what + ")", s.count(what), want[what]);
        }
    }

    private static void look() {
        due.is("heard under thirty octaves", s.heard(0, 0), 60 + 30 * 12);
        due.is("heard beside them", s.heard(1, 0), 60);
        due.is("in the last bar", s.at(23, 6), 23);
        due.is("behind the last bar", s.at(24, 6), StaveScore.NONE);
        due.is("in the last tuplet", s.at(139, 5), 1);
        due.is("behind it", s.at(140, 5), 0);
        due.is("length", s.length(VOICE, 0), 16);
        due.is("length", s.length(VOICE, 1), 3);
        due.is("the last tuplet lies in none", s.tupletAt(19, 6), 0);
        due.is("equal to itself", s.equal(VOICE, VOICE), 1);
        due.is("not to another one", s.equal(VOICE, 0), 0);
        due.is("two without tuplets", s.equal(0, 1), 1);
        // RANGE of the first event, LONG of three voices, 15 OVER and SHORT in voice 3, 20 SUM.
        due.is("findings", s.check(), 40);
        due.is("the last one", s.finding(39, 1), 19);
        due.is("walk", s.walk(), 148);
        due.is("the last one", s.walked(147), 119);
    }

    private static void putAndDrop() {
        due.is("put ahead of the tuplets", s.put(VOICE, 0, 0, 60, 2, 0), 148);
        due.is("the last one is farther", s.tupletAt(19, 1), 20);
        due.is("put", s.put(17, 0, 1, 60, 2, 0), 149);
        due.refused(s, "put", s.put(17, 0, 1, 60, 2, 0), StaveScore.FULL);
        due.refused(s, "tuplet", s.tuplet(17, 0, 1, 3, 2, 2), StaveScore.FULL);
        due.refused(s, "line", s.line(0, 149, 149), StaveScore.FULL);
        due.refused(s, "bar", s.bar(1, 4), StaveScore.FULL);
        due.refused(s, "part", s.part(0), StaveScore.FULL);
        due.is("walk", s.walk(), 150);
        due.is("the last one", s.walked(149), 119);
        due.is("drop", s.drop(148), 0);
        due.is("nearer again", s.tupletAt(19, 1), 19);
        due.is("drop the last of a tuplet", s.drop(139), 19);
        due.is("the last tuplet is gone", s.tupletAt(19, 1), StaveScore.BAD);
        due.is("drop what all lines are on", s.drop(0), 0);
        due.is("no lines", s.count(5), 0);
        // LONG of three voices, 14 OVER and SHORT in voice 3, SHORT of voice 17, 19 SUM.
        due.is("findings", s.check(), 38);
    }

    private static void nothingBehindTheLast() {
        due.is("event", s.at(150, 0), StaveScore.BAD);
        due.is("tuplet", s.tupletAt(20, 0), StaveScore.BAD);
        due.is("line", s.lineAt(30, 0), StaveScore.BAD);
        due.is("voice", s.event(18, 0), StaveScore.BAD);
        due.is("part", s.asks(6, 0, 0), -2000);
        due.is("walked", s.walked(150), StaveScore.NONE);
        due.is("place", s.event(1, 40), StaveScore.NONE);
    }
}
