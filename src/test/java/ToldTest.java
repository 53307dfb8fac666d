/** Promises 39 to 42: failures, status, trace, count. */
public final class ToldTest {
    private static final Due due = new Due("ToldTest");

    public static void main(String[] args) {
        failures();
        status();
        trace();
        count();
        due.finish();
    }

    private static void failures() {
        StaveScore s = new StaveScore();
        s.part(0);
        s.put(0, 0, 3, 0, 2, 0);
        s.rack(0, 0, 1);
        s.rack(0, 0, -1);
        s.shelf(0, 0, -1);
        s.hold(0, 0, 0);
        s.hold(0, 1, 0);
        s.held(0, 0);
        s.pitch(0, 0);
        s.heard(0, 0);
        s.shift(0, 0);
        s.chord(0, 0);
        int[] want = {1, 1, 4, 1, 2};
        for (int kind = 0; kind < want.length; kind++) {
            due.is("failures(" + kind + ")", s.failures(kind), want[kind]);
        }
        s.part(9);
        s.tuplet(0, 0, 1, 3, 2, 2);
        s.tuplet(0, 0, 1, 3, 2, 2);
        s.tuplet(0, 0, 1, 3, 2, 2);
        due.is("other refusals are none", s.status(), StaveScore.STATE);
        for (int kind = 0; kind < want.length; kind++) {
            due.is("failures(" + kind + ")", s.failures(kind), want[kind]);
        }
        due.is("failures(5)", s.failures(5), StaveScore.BAD);
        due.is("failures(-1)", s.failures(-1), StaveScore.BAD);
    }

    private static void status() {
        StaveScore s = new StaveScore();
        s.part(9);
        due.is("bad", s.status(), StaveScore.BAD);
        s.failures(0);
        s.failures(9);
        s.trace();
        s.count(0);
        s.count(9);
        due.is("these leave it", s.status(), StaveScore.BAD);
        s.walked(0);
        due.is("walked", s.status(), 0);
        s.part(9);
        s.walk();
        due.is("walk", s.status(), 0);
        s.part(9);
        s.check();
        due.is("check", s.status(), 0);
        s.item(0, 0);
        due.is("as it is, however told", s.status(), StaveScore.NULL);
        s.time(0, 0);
        due.is("time", s.status(), StaveScore.BAD);
        s.part(0);
        due.is("part", s.status(), 0);
        s.length(9, 0);
        due.is("length", s.status(), StaveScore.BAD);
        s.length(0, 0);
        due.is("length", s.status(), 0);
    }

    private static void trace() {
        StaveScore s = new StaveScore();
        s.part(1);
        s.part(4);
        s.part(5);
        s.asks(0, 0, 60);
        due.is("low", s.trace(), 11);
        s.asks(1, 0, 60);
        due.is("low horn", s.trace(), 11 + 1101);
        s.asks(2, 0, 60);
        due.is("drum", s.trace(), 11 + 1101 + 10000);
        s.asks(1, 1, 60);
        due.is("least", s.trace(), 11 + 1101 + 10000 + 100000);
        s.put(0, 0, 0, 60, 2, 0);
        s.pitch(0, 0);
        s.walk();
        due.is("these ask nothing", s.trace(), 111112);
        s.check();
        due.is("check asks", s.trace(), 111123);
    }

    private static void count() {
        StaveScore s = new StaveScore();
        s.part(0);
        s.part(0);
        s.bar(1, 1);
        for (int i = 0; i < 5; i++) {
            s.put(0, 0, 3, 0, 2, 0);
        }
        s.drop(0);
        s.tuplet(0, 0, 1, 3, 2, 2);
        s.tuplet(0, 1, 1, 3, 2, 2);
        s.untuplet(0);
        s.line(0, 1, 2);
        s.line(0, 2, 1);
        s.drop(1);
        due.is("findings", s.check(), 3);
        int[] want = {2, 1, 3, 5, 1, 1, 3};
        for (int what = 0; what < want.length; what++) {
            due.is("count(" + what + ")", s.count(what), want[what]);
        }
        due.is("count(7)", s.count(7), StaveScore.BAD);
        due.is("count(-1)", s.count(-1), StaveScore.BAD);
    }
}
