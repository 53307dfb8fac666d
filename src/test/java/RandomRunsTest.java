import java.util.Arrays;
import java.util.Random;

/**
 * All promises at once: runs of 512 calls, drawn from a fixed seed, on the program and on ScoreModel.
 * With the arguments RUNS SEED it looks at others.
 */
public final class RandomRunsTest {
    private static final String[] CALLS = {
        "part", "bar", "put", "drop", "chord", "pitch", "heard", "shift", "transpose", "tie", "value", "at", "time",
        "length", "event", "asks", "tuplet", "untuplet", "tupletAt", "line", "end", "lineAt", "walk", "walked", "check",
        "finding", "equal", "rack", "hold", "held", "slide", "shelf", "lay", "item", "lift", "copy", "play", "failures",
        "count", "status", "trace"};
    /** How often each is drawn; put comes often, as most others need events. */
    private static final int[] WEIGHTS = {
        1, 1, 30, 5, 5, 2, 4, 4, 2, 4, 4, 4, 6, 2, 2, 2, 8, 1, 3, 4, 2, 2, 2, 3, 3, 3, 2, 2, 6, 3, 3, 2, 3, 3, 4, 3, 3, 3, 3, 15, 3};
    private static final int[] WILD = {
        Integer.MIN_VALUE, Integer.MAX_VALUE, -1000, -3, -2, -1, 0, 1, 2, 3, 4, 5, 6, 7, 8, 9, 20, 21, 40, 60, 61, 127, 128,
        150, 1000};
    private static final int CALLS_OF_RUN = 512;
    private static final Due due = new Due("RandomRunsTest");

    private final Random random;
    private final StaveScore score = new StaveScore();
    private final ScoreModel model = new ScoreModel();
    private final int voiceSpan;
    private final int wildness;
    /** Of a hundred calls so many are puts, whatever the weights: only then does a run come to 150 events. */
    private final int eagerness;
    /** Whether what comes into a voice comes into its neighbour next: only then are voices alike, beyond empty ones. */
    private final boolean echoing;

    private RandomRunsTest(long seed) {
        random = new Random(seed);
        voiceSpan = new int[] {1, 2, 4, 8, 18}[random.nextInt(5)];
        wildness = new int[] {0, 2, 5, 30}[random.nextInt(4)];
        eagerness = new int[] {0, 0, 0, 40}[random.nextInt(4)];
        echoing = random.nextInt(4) == 0;
    }

    public static void main(String[] args) {
        int runs = args.length > 0 ? Integer.parseInt(args[0]) : 1500;
        long seed = args.length > 1 ? Long.parseLong(args[1]) : 1;
        for (int run = 0; run < runs; run++) {
            if (!new RandomRunsTest(seed * 1_000_003L + run).sameAnswers("run " + run)) {
                break;
            }
        }
        due.finish();
    }

    private boolean sameAnswers(String run) {
        int total = Arrays.stream(WEIGHTS).sum();
        boolean same = same(run, "part", new int[] {random.nextInt(6)});
        for (int i = 1; i < CALLS_OF_RUN && same; i++) {
            String call = random.nextInt(100) < eagerness ? "put" : CALLS[drawCall(total)];
            int[] a = drawArguments(call);
            same = same(run + ", call " + i, call, a);
            if (echoing && i < CALLS_OF_RUN - 2 && (call.equals("put") || call.equals("tuplet"))) {
                a[0] ^= 1;
                same &= same(run + ", call " + i + ", its echo", call, a);
                same &= same(run + ", call " + i + ", behind it", "equal", new int[] {a[0], a[0] ^ 1});
                i += 2;
            }
        }
        return same;
    }

    private int drawCall(int total) {
        int drawn = random.nextInt(total);
        int call = 0;
        while (drawn >= WEIGHTS[call]) {
            drawn -= WEIGHTS[call];
            call++;
        }
        return call;
    }

    private boolean same(String when, String call, int[] a) {
        long got = onScore(call, a);
        long want = onModel(call, a);
        due.is(when + ", " + call + Arrays.toString(a), got, want);
        return got == want;
    }

    private int upTo(int high) {
        return random.nextInt(Math.max(0, high) + 1);
    }

    private int someEvent() {
        return random.nextInt(8) == 0 ? -1 : upTo(model.count(3));
    }

    private int somePitch() {
        return random.nextInt(3) == 0 ? random.nextInt(128) : 50 + random.nextInt(30);
    }

    private int someShift() {
        return random.nextInt(6) == 0 ? random.nextInt(300) - 150 : random.nextInt(13) - 6;
    }

    private int someVoice() {
        return random.nextInt(voiceSpan);
    }

    private int somePlace(int voice) {
        return upTo(model.sizeOf(voice));
    }

    private int[] drawArguments(String call) {
        int[] a = drawGoodArguments(call);
        for (int i = 0; i < a.length; i++) {
            if (random.nextInt(100) < wildness) {
                a[i] = WILD[random.nextInt(WILD.length)];
            }
        }
        return a;
    }

    private int[] drawGoodArguments(String call) {
        int voice = someVoice();
        switch (call) {
            case "part": return new int[] {upTo(5)};
            case "bar": return new int[] {1 + upTo(7), 1 << upTo(5)};
            case "put": return new int[] {voice, somePlace(voice), upTo(4), somePitch(), upTo(5), upTo(2)};
            case "drop": return new int[] {someEvent()};
            case "chord": return new int[] {someEvent(), somePitch()};
            case "pitch": case "heard": return new int[] {someEvent(), upTo(3)};
            case "shift": return new int[] {someEvent(), someShift()};
            case "transpose": return new int[] {voice, someShift()};
            case "tie": return new int[] {someEvent(), upTo(1)};
            case "value": return new int[] {someEvent(), upTo(5), upTo(2)};
            case "at": return new int[] {someEvent(), upTo(9)};
            case "time": return new int[] {someEvent(), upTo(6)};
            case "length": return new int[] {voice, upTo(2)};
            case "event": return new int[] {voice, somePlace(voice)};
            case "asks": return new int[] {upTo(5), upTo(3), somePitch()};
            case "tuplet": {
                int from = somePlace(voice);
                int[] ns = {3, 5, 6, 7};
                return new int[] {voice, from, 1 + upTo(random.nextInt(10)), ns[upTo(3)], 1 + upTo(7), upTo(5)};
            }
            case "untuplet": return new int[] {upTo(20)};
            case "tupletAt": return new int[] {upTo(20), upTo(7)};
            case "line": return new int[] {random.nextBoolean() ? 2 : upTo(3), someEvent(), someEvent()};
            case "end": return new int[] {upTo(30), someEvent()};
            case "lineAt": return new int[] {upTo(30), upTo(3)};
            case "walked": return new int[] {upTo(model.count(2))};
            case "finding": return new int[] {upTo(model.count(6)), upTo(3)};
            case "equal": return new int[] {voice, someVoice()};
            case "rack": return new int[] {upTo(3), random.nextBoolean() ? 0 : upTo(5), upTo(22) - 1};
            case "hold": return new int[] {upTo(3), upTo(12) - 1, someEvent()};
            case "held": return new int[] {upTo(3), upTo(12) - 1};
            case "slide": return new int[] {upTo(3), upTo(8) - 1, upTo(8) - 1, upTo(9) - 1};
            case "shelf": return new int[] {upTo(3), upTo(3), upTo(62) - 1};
            case "lay": return new int[] {random.nextBoolean() ? voice : upTo(3), upTo(1), upTo(3), upTo(20) - 1};
            case "item": return new int[] {upTo(3), upTo(30) - 1};
            case "lift": return new int[] {upTo(3), upTo(30) - 1, random.nextInt(4) == 0 ? random.nextInt() : somePitch()};
            case "copy": return new int[] {upTo(3), upTo(20) - 1, upTo(3), upTo(20) - 1, upTo(20) - 1};
            case "play": return new int[] {upTo(3), voice};
            case "failures": return new int[] {upTo(5)};
            case "count": return new int[] {upTo(7)};
            default: return new int[0];
        }
    }

    private long onScore(String call, int[] a) {
        switch (call) {
            case "part": return score.part(a[0]);
            case "bar": return score.bar(a[0], a[1]);
            case "put": return score.put(a[0], a[1], a[2], a[3], a[4], a[5]);
            case "drop": return score.drop(a[0]);
            case "chord": return score.chord(a[0], a[1]);
            case "pitch": return score.pitch(a[0], a[1]);
            case "heard": return score.heard(a[0], a[1]);
            case "shift": return score.shift(a[0], a[1]);
            case "transpose": return score.transpose(a[0], a[1]);
            case "tie": return score.tie(a[0], a[1] > 0);
            case "value": return score.value(a[0], a[1], a[2]);
            case "at": return score.at(a[0], a[1]);
            case "time": return score.time(a[0], a[1]);
            case "length": return score.length(a[0], a[1]);
            case "event": return score.event(a[0], a[1]);
            case "asks": return score.asks(a[0], a[1], a[2]);
            case "tuplet": return score.tuplet(a[0], a[1], a[2], a[3], a[4], a[5]);
            case "untuplet": return score.untuplet(a[0]);
            case "tupletAt": return score.tupletAt(a[0], a[1]);
            case "line": return score.line(a[0], a[1], a[2]);
            case "end": return score.end(a[0], a[1]);
            case "lineAt": return score.lineAt(a[0], a[1]);
            case "walk": return score.walk();
            case "walked": return score.walked(a[0]);
            case "check": return score.check();
            case "finding": return score.finding(a[0], a[1]);
            case "equal": return score.equal(a[0], a[1]);
            case "rack": return score.rack(a[0], a[1], a[2]);
            case "hold": return score.hold(a[0], a[1], a[2]);
            case "held": return score.held(a[0], a[1]);
            case "slide": return score.slide(a[0], a[1], a[2], a[3]);
            case "shelf": return score.shelf(a[0], a[1], a[2]);
            case "lay": return score.lay(a[0], a[1] > 0, a[2], a[3]);
            case "item": return score.item(a[0], a[1]);
            case "lift": return score.lift(a[0], a[1], a[2]);
            case "copy": return score.copy(a[0], a[1], a[2], a[3], a[4]);
            case "play": return score.play(a[0], a[1]);
            case "failures": return score.failures(a[0]);
            case "count": return score.count(a[0]);
            case "status": return score.status();
            default: return score.trace();
        }
    }

    private long onModel(String call, int[] a) {
        switch (call) {
            case "part": return model.part(a[0]);
            case "bar": return model.bar(a[0], a[1]);
            case "put": return model.put(a[0], a[1], a[2], a[3], a[4], a[5]);
            case "drop": return model.drop(a[0]);
            case "chord": return model.chord(a[0], a[1]);
            case "pitch": return model.pitch(a[0], a[1]);
            case "heard": return model.heard(a[0], a[1]);
            case "shift": return model.shift(a[0], a[1]);
            case "transpose": return model.transpose(a[0], a[1]);
            case "tie": return model.tie(a[0], a[1] > 0);
            case "value": return model.value(a[0], a[1], a[2]);
            case "at": return model.at(a[0], a[1]);
            case "time": return model.time(a[0], a[1]);
            case "length": return model.length(a[0], a[1]);
            case "event": return model.event(a[0], a[1]);
            case "asks": return model.asks(a[0], a[1], a[2]);
            case "tuplet": return model.tuplet(a[0], a[1], a[2], a[3], a[4], a[5]);
            case "untuplet": return model.untuplet(a[0]);
            case "tupletAt": return model.tupletAt(a[0], a[1]);
            case "line": return model.line(a[0], a[1], a[2]);
            case "end": return model.end(a[0], a[1]);
            case "lineAt": return model.lineAt(a[0], a[1]);
            case "walk": return model.walk();
            case "walked": return model.walked(a[0]);
            case "check": return model.check();
            case "finding": return model.finding(a[0], a[1]);
            case "equal": return model.equal(a[0], a[1]);
            case "rack": return model.rack(a[0], a[1], a[2]);
            case "hold": return model.hold(a[0], a[1], a[2]);
            case "held": return model.held(a[0], a[1]);
            case "slide": return model.slide(a[0], a[1], a[2], a[3]);
            case "shelf": return model.shelf(a[0], a[1], a[2]);
            case "lay": return model.lay(a[0], a[1] > 0, a[2], a[3]);
            case "item": return model.item(a[0], a[1]);
            case "lift": return model.lift(a[0], a[1], a[2]);
            case "copy": return model.copy(a[0], a[1], a[2], a[3], a[4]);
            case "play": return model.play(a[0], a[1]);
            case "failures": return model.failures(a[0]);
            case "count": return model.count(a[0]);
            case "status": return model.status();
            default: return model.trace();
        }
    }
}
