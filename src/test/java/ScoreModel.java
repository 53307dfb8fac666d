import java.lang.reflect.Array;
import java.math.BigInteger;
import java.util.ArrayList;
import java.util.Comparator;
import java.util.LinkedHashSet;
import java.util.List;
import java.util.TreeMap;

/**
 * The document once more, for RandomRunsTest, held in another way than the program: fractions of big
 * numbers, tuplets as sets of events, nothing kept that can be worked out, racks and shelves as the
 * machine's own arrays with the machine's own exceptions.
 */
final class ScoreModel {
    static final int NONE = -1, BAD = -2, STATE = -3, FULL = -4, NULL = -11, INDEX = -12, CAST = -13, STORE = -14, SIZE = -15;

    record Fraction(BigInteger up, BigInteger down) implements Comparable<Fraction> {
        static final Fraction ZERO = of(0, 1);

        static Fraction of(long up, long down) {
            return least(BigInteger.valueOf(up), BigInteger.valueOf(down));
        }

        static Fraction least(BigInteger up, BigInteger down) {
            BigInteger both = up.gcd(down);
            return new Fraction(up.divide(both), down.divide(both));
        }

        Fraction plus(Fraction o) {
            return least(up.multiply(o.down).add(o.up.multiply(down)), down.multiply(o.down));
        }

        Fraction less(Fraction o) {
            return plus(new Fraction(o.up.negate(), o.down));
        }

        Fraction times(long u, long d) {
            return least(up.multiply(BigInteger.valueOf(u)), down.multiply(BigInteger.valueOf(d)));
        }

        @Override public int compareTo(Fraction o) {
            return up.multiply(o.down).compareTo(o.up.multiply(down));
        }

        long told(int what) {
            return (what == 0 ? up : down).longValueExact();
        }
    }

    static class Ev {
        int number, kind, voice, value, dots;
        boolean tied;

        Fraction written() {
            Fraction plain = Fraction.of(1, 1L << value);
            return dots == 0 ? plain : dots == 1 ? plain.times(3, 2) : plain.times(7, 4);
        }
    }

    static class NoteEv extends Ev {
        List<Integer> pitches = new ArrayList<>();

        void move(int by) {
            for (int p : pitches) {
                if ((long) p + by < 0 || (long) p + by > 127) {
                    throw new IndexOutOfBoundsException();
                }
            }
            pitches.replaceAll(p -> p + by);
        }
    }

    static class ChordEv extends NoteEv { }

    static class GraceEv extends NoteEv {
        @Override Fraction written() {
            return Fraction.ZERO;
        }
    }

    static class RestEv extends Ev { }

    static class BreathEv extends RestEv {
        @Override Fraction written() {
            return Fraction.ZERO;
        }
    }

    static class Tup {
        int number, voice, n, m, unit;
        LinkedHashSet<Ev> events = new LinkedHashSet<>();

        boolean isInnerOf(Tup o) {
            return this != o && o.events.containsAll(events) && (!events.containsAll(o.events) || number > o.number);
        }
    }

    static class Ln {
        int kind;
        Ev from, to;
    }

    private final List<Integer> parts = new ArrayList<>();
    private final List<List<Ev>> voices = new ArrayList<>();
    private final List<Fraction> bars = new ArrayList<>();
    private final TreeMap<Integer, Ev> events = new TreeMap<>();
    private final TreeMap<Integer, Tup> tuplets = new TreeMap<>();
    private final TreeMap<Integer, Ln> lines = new TreeMap<>();
    private int eventsEver, tupletsEver, linesEver;
    private List<Integer> walk = new ArrayList<>();
    private List<int[]> findings = new ArrayList<>();
    private final Ev[][] racks = new Ev[4][];
    private final Object[] shelves = new Object[4];
    private final int[] failures = new int[5];
    private int status;
    private long trace;

    private static final class Refusal extends RuntimeException {
        private static final long serialVersionUID = 1;
        final int code;

        Refusal(int code) {
            super(null, null, false, false);
            this.code = code;
        }
    }

    private interface Body {
        long run();
    }

    private int done;

    private long run(Body body) {
        status = 0;
        done = 0;
        try {
            return body.run();
        } catch (Refusal r) {
            status = r.code;
        } catch (ArrayStoreException e) {
            status = STORE;
        } catch (NullPointerException e) {
            status = NULL;
        } catch (IndexOutOfBoundsException e) {
            status = INDEX;
        } catch (ClassCastException e) {
            status = CAST;
        } catch (NegativeArraySizeException e) {
            status = SIZE;
        }
        if (status <= NULL) {
            failures[NULL - status]++;
        }
        return status;
    }

    /** A run that, but for BAD, answers how many it did, whatever it ended at. */
    private int runCounting(Body body) {
        long answer = run(body);
        return status == BAD ? BAD : status != 0 ? done : (int) answer;
    }

    private static void need(boolean good) {
        if (!good) {
            throw new Refusal(BAD);
        }
    }

    private static void refuse(boolean when, int code) {
        if (when) {
            throw new Refusal(code);
        }
    }

    private static boolean in(int low, int x, int high) {
        return low <= x && x <= high;
    }

    int sizeOf(int voice) {
        return voice < voices.size() ? voices.get(voice).size() : 0;
    }

    private List<Ev> voice(int v) {
        need(in(0, v, voices.size() - 1));
        return voices.get(v);
    }

    private Ev ev(int e) {
        need(events.containsKey(e));
        return events.get(e);
    }

    private Tup tup(int t) {
        need(tuplets.containsKey(t));
        return tuplets.get(t);
    }

    private Ln ln(int l) {
        need(lines.containsKey(l));
        return lines.get(l);
    }

    private static NoteEv note(Ev e) {
        return (NoteEv) e;
    }

    // ---- parts, bars, events

    int part(int kind) {
        return (int) run(() -> {
            need(in(0, kind, 5));
            refuse(parts.size() == 6, FULL);
            parts.add(kind);
            for (int i = 0; i < 3; i++) {
                voices.add(new ArrayList<>());
            }
            return parts.size() - 1;
        });
    }

    int bar(int up, int down) {
        return (int) run(() -> {
            need(in(1, up, 64) && List.of(1, 2, 4, 8, 16, 32).contains(down));
            refuse(bars.size() == 24, FULL);
            bars.add(Fraction.of(up, down));
            return bars.size() - 1;
        });
    }

    private static Ev newEvent(int kind) {
        switch (kind) {
            case 0: return new NoteEv();
            case 1: return new ChordEv();
            case 2: return new GraceEv();
            case 3: return new RestEv();
            default: return new BreathEv();
        }
    }

    int put(int voice, int place, int kind, int pitch, int value, int dots) {
        return (int) run(() -> {
            List<Ev> row = voice(voice);
            need(in(0, place, row.size()) && in(0, kind, 4) && in(0, value, 5) && in(0, dots, 2));
            need(kind > 2 || in(0, pitch, 127));
            refuse(eventsEver == 150 || row.size() == 40, FULL);
            Ev e = newEvent(kind);
            e.number = eventsEver++;
            e.kind = kind;
            e.voice = voice;
            e.value = value;
            e.dots = dots;
            if (e instanceof NoteEv n) {
                n.pitches.add(pitch);
            }
            events.put(e.number, e);
            Ev ahead = place == 0 ? null : row.get(place - 1);
            Ev behind = place == row.size() ? null : row.get(place);
            for (Tup t : tuplets.values()) {
                // Behind one of its events and ahead of another one.
                if (t.voice == voice && t.events.contains(ahead) && t.events.contains(behind)) {
                    t.events.add(e);
                }
            }
            row.add(place, e);
            return e.number;
        });
    }

    int drop(int event) {
        return (int) run(() -> {
            Ev e = ev(event);
            int place = voices.get(e.voice).indexOf(e);
            voices.get(e.voice).remove(e);
            events.remove(event);
            tuplets.values().forEach(t -> t.events.remove(e));
            tuplets.values().removeIf(t -> t.events.isEmpty());
            lines.values().removeIf(l -> l.from == e);
            lines.values().forEach(l -> l.to = l.to == e ? null : l.to);
            for (Ev[] rack : racks) {
                for (int i = 0; rack != null && i < rack.length; i++) {
                    rack[i] = rack[i] == e ? null : rack[i];
                }
            }
            return place;
        });
    }

    int chord(int event, int pitch) {
        return (int) run(() -> {
            Ev e = ev(event);
            need(in(0, pitch, 127));
            List<Integer> pitches = ((ChordEv) e).pitches;
            refuse(pitch <= pitches.get(pitches.size() - 1), STATE);
            refuse(pitches.size() == 6, FULL);
            pitches.add(pitch);
            return pitches.size();
        });
    }

    int pitch(int event, int i) {
        return (int) run(() -> {
            List<Integer> pitches = note(ev(event)).pitches;
            return in(0, i, pitches.size() - 1) ? pitches.get(i) : NONE;
        });
    }

    int heard(int event, int i) {
        long answer = run(() -> {
            NoteEv e = note(ev(event));
            return in(0, i, e.pitches.size() - 1) ? sound(e, e.pitches.get(i)) : -1000;
        });
        return status == BAD ? -2000 : status == CAST ? -2001 : (int) answer;
    }

    private int sound(Ev e, int pitch) {
        int sound = kindHeard(parts.get(e.voice / 3), pitch);
        List<Ev> row = voices.get(e.voice);
        for (Ln l : lines.values()) {
            if (l.kind == 2 && l.to != null && row.contains(l.from) && row.contains(l.to)
                && in(row.indexOf(l.from), row.indexOf(e), row.indexOf(l.to))) {
                sound += 12;
            }
        }
        return sound;
    }

    private int kindHeard(int kind, int pitch) {
        switch (kind) {
            case 0: trace += 1; return pitch;
            case 1: trace += 10; return kindHeard(0, pitch) - 12;
            case 2: return kindHeard(0, pitch);
            case 3: trace += 100; return kindHeard(2, pitch) - 7;
            case 4: trace += 1000; return kindHeard(3, pitch) - 12;
            default: trace += 10000; return 35;
        }
    }

    private int kindLeast(int kind) {
        switch (kind) {
            case 2: case 3: return 28;
            case 4: trace += 100000; return 23;
            default: return 21;
        }
    }

    private static int kindMost(int kind) {
        return in(2, kind, 4) ? 82 : 108;
    }

    int shift(int event, int by) {
        return (int) run(() -> {
            NoteEv e = note(ev(event));
            e.move(by);
            return e.pitches.size();
        });
    }

    int transpose(int voice, int by) {
        return runCounting(() -> {
            for (Ev e : voice(voice)) {
                if (e instanceof NoteEv n) {
                    n.move(by);
                    done++;
                }
            }
            return done;
        });
    }

    int tie(int event, boolean on) {
        return (int) run(() -> {
            NoteEv e = note(ev(event));
            int was = e.tied ? 1 : 0;
            e.tied = on;
            return was;
        });
    }

    int value(int event, int value, int dots) {
        return (int) run(() -> {
            Ev e = ev(event);
            need(in(0, value, 5) && in(0, dots, 2));
            e.value = value;
            e.dots = dots;
            return 1;
        });
    }

    private Fraction timeOf(Ev e) {
        Fraction time = e.written();
        for (Tup t : tuplets.values()) {
            time = t.events.contains(e) ? time.times(t.m, t.n) : time;
        }
        return time;
    }

    private Fraction begin(Ev e) {
        Fraction sum = Fraction.ZERO;
        for (Ev o : voices.get(e.voice)) {
            if (o == e) {
                break;
            }
            sum = sum.plus(timeOf(o));
        }
        return sum;
    }

    private Fraction lengthOf(List<Ev> row) {
        Fraction sum = Fraction.ZERO;
        for (Ev o : row) {
            sum = sum.plus(timeOf(o));
        }
        return sum;
    }

    private Fraction barBegin(int bar) {
        Fraction sum = Fraction.ZERO;
        for (int i = 0; i < bar; i++) {
            sum = sum.plus(bars.get(i));
        }
        return sum;
    }

    private int barOf(Fraction moment) {
        for (int i = 0; i < bars.size(); i++) {
            if (moment.compareTo(barBegin(i)) >= 0 && moment.compareTo(barBegin(i + 1)) < 0) {
                return i;
            }
        }
        return NONE;
    }

    int at(int event, int what) {
        return (int) run(() -> {
            Ev e = ev(event);
            need(in(0, what, 8));
            int pitches = e instanceof NoteEv n ? n.pitches.size() : 0;
            int in = (int) tuplets.values().stream().filter(t -> t.events.contains(e)).count();
            int[] all = {e.voice, voices.get(e.voice).indexOf(e), e.kind, pitches, e.tied ? 1 : 0, in,
                barOf(begin(e)), e.value, e.dots};
            return all[what];
        });
    }

    long time(int event, int what) {
        return run(() -> {
            Ev e = ev(event);
            need(in(0, what, 5));
            Fraction begin = begin(e);
            int bar = barOf(begin);
            Fraction[] all = {begin, timeOf(e), bar == NONE ? Fraction.ZERO : begin.less(barBegin(bar))};
            return all[what / 2].told(what % 2);
        });
    }

    long length(int voice, int what) {
        return run(() -> {
            List<Ev> row = voice(voice);
            need(in(0, what, 1));
            return lengthOf(row).told(what);
        });
    }

    int event(int voice, int place) {
        return (int) run(() -> {
            List<Ev> row = voice(voice);
            return in(0, place, row.size() - 1) ? row.get(place).number : NONE;
        });
    }

    int asks(int part, int what, int pitch) {
        long answer = run(() -> {
            need(in(0, part, parts.size() - 1) && in(0, what, 2));
            int kind = parts.get(part);
            return what == 0 ? kindHeard(kind, pitch) : what == 1 ? kindLeast(kind) : kindMost(kind);
        });
        return status == BAD ? -2000 : (int) answer;
    }

    // ---- tuplets, lines

    int tuplet(int voice, int from, int many, int n, int m, int unit) {
        return (int) run(() -> {
            List<Ev> row = voice(voice);
            need(from >= 0 && many >= 1 && (long) from + many <= row.size());
            need(List.of(3, 5, 6, 7).contains(n) && in(1, m, 8) && in(0, unit, 5));
            Tup fresh = new Tup();
            fresh.events.addAll(row.subList(from, from + many));
            for (Tup t : tuplets.values()) {
                boolean share = t.events.stream().anyMatch(fresh.events::contains);
                refuse(share && !t.events.containsAll(fresh.events) && !fresh.events.containsAll(t.events), STATE);
            }
            for (Ev e : fresh.events) {
                refuse(tuplets.values().stream().filter(t -> t.events.contains(e)).count() >= 2, STATE);
            }
            refuse(tupletsEver == 20, FULL);
            fresh.number = tupletsEver++;
            fresh.voice = voice;
            fresh.n = n;
            fresh.m = m;
            fresh.unit = unit;
            tuplets.put(fresh.number, fresh);
            return fresh.number;
        });
    }

    int untuplet(int tuplet) {
        return (int) run(() -> {
            tup(tuplet);
            return tuplets.remove(tuplet).events.size();
        });
    }

    private int firstPlace(Tup t) {
        return t.events.stream().mapToInt(e -> voices.get(t.voice).indexOf(e)).min().getAsInt();
    }

    int tupletAt(int tuplet, int what) {
        return (int) run(() -> {
            Tup t = tup(tuplet);
            need(in(0, what, 6));
            int around = (int) tuplets.values().stream().filter(t::isInnerOf).count();
            int[] all = {t.voice, firstPlace(t), t.events.size(), t.n, t.m, t.unit, around};
            return all[what];
        });
    }

    int line(int kind, int from, int to) {
        return (int) run(() -> {
            Ln l = new Ln();
            need(in(0, kind, 3));
            l.kind = kind;
            l.from = ev(from);
            l.to = to == NONE ? null : ev(to);
            refuse(linesEver == 30, FULL);
            lines.put(linesEver, l);
            return linesEver++;
        });
    }

    int end(int line, int to) {
        return (int) run(() -> {
            Ln l = ln(line);
            l.to = to == NONE ? null : ev(to);
            return 1;
        });
    }

    int lineAt(int line, int what) {
        return (int) run(() -> {
            Ln l = ln(line);
            need(in(0, what, 2));
            return what == 0 ? l.kind : what == 1 ? l.from.number : l.to == null ? NONE : l.to.number;
        });
    }

    // ---- walks, what is wrong

    int walk() {
        return (int) run(() -> {
            List<Ev> all = new ArrayList<>();
            voices.forEach(all::addAll);
            TreeMap<Integer, Fraction> begins = new TreeMap<>();
            all.forEach(e -> begins.put(e.number, begin(e)));
            all.sort(Comparator.comparing(e -> begins.get(e.number)));
            walk = all.stream().map(e -> e.number).toList();
            return walk.size();
        });
    }

    int walked(int i) {
        return (int) run(() -> in(0, i, walk.size() - 1) ? walk.get(i) : NONE);
    }

    private void add(int kind, int of, int bar) {
        findings.add(new int[] {kind, of, bar});
    }

    int check() {
        return (int) run(() -> {
            findings = new ArrayList<>();
            for (int v = 0; v < voices.size(); v++) {
                List<Ev> row = voices.get(v);
                for (Ev e : row) {
                    checkEvent(row, e);
                }
                int compared = lengthOf(row).compareTo(barBegin(bars.size()));
                if (!row.isEmpty() && compared != 0) {
                    add(compared < 0 ? 3 : 4, v, -1);
                }
            }
            tuplets.forEach((number, t) -> {
                Fraction sum = Fraction.ZERO;
                for (Ev e : t.events) {
                    Fraction time = e.written();
                    for (Tup inner : tuplets.values()) {
                        time = inner.isInnerOf(t) && inner.events.contains(e) ? time.times(inner.m, inner.n) : time;
                    }
                    sum = sum.plus(time);
                }
                if (sum.compareTo(Fraction.of(t.n, 1L << t.unit)) != 0) {
                    add(5, number, -1);
                }
            });
            lines.forEach((number, l) -> {
                if (l.to == null) {
                    add(6, number, -1);
                } else if (begin(l.to).compareTo(begin(l.from)) < 0) {
                    add(7, number, -1);
                }
            });
            return findings.size();
        });
    }

    private void checkEvent(List<Ev> row, Ev e) {
        Fraction begin = begin(e);
        int bar = barOf(begin);
        if (bar != NONE && begin.plus(timeOf(e)).compareTo(barBegin(bar + 1)) > 0) {
            add(0, e.number, bar);
        }
        if (!(e instanceof NoteEv n)) {
            return;
        }
        Ev next = row.stream().skip(row.indexOf(e) + 1L)
            .filter(o -> !(o instanceof GraceEv) && !(o instanceof BreathEv)).findFirst().orElse(null);
        if (e.tied && !(next instanceof NoteEv o && o.pitches.containsAll(n.pitches))) {
            add(1, e.number, -1);
        }
        int kind = parts.get(e.voice / 3);
        for (int pitch : n.pitches) {
            int sound = sound(e, pitch);
            if (sound < kindLeast(kind) || sound > kindMost(kind)) {
                add(2, e.number, -1);
                break;
            }
        }
    }

    int finding(int i, int what) {
        return (int) run(() -> {
            need(in(0, what, 2));
            return in(0, i, Math.min(100, findings.size()) - 1) ? findings.get(i)[what] : NONE;
        });
    }

    private String image(int voice) {
        StringBuilder image = new StringBuilder();
        for (Ev e : voice(voice)) {
            image.append(e.kind).append(e instanceof NoteEv n ? n.pitches : "").append(e.value).append(e.dots).append(e.tied);
        }
        for (Tup t : tuplets.values()) {
            if (t.voice == voice) {
                image.append(List.of(t.n, t.m, t.unit, firstPlace(t), t.events.size()));
            }
        }
        return image.toString();
    }

    int equal(int voice, int other) {
        return (int) run(() -> image(voice).equals(image(other)) ? 1 : 0);
    }

    // ---- racks, shelves

    int rack(int rack, int kind, int n) {
        return (int) run(() -> {
            need(in(0, rack, 3) && in(0, kind, 5) && n <= 20);
            switch (kind) {
                case 0: racks[rack] = new NoteEv[n]; break;
                case 1: racks[rack] = new ChordEv[n]; break;
                case 2: racks[rack] = new GraceEv[n]; break;
                case 3: racks[rack] = new RestEv[n]; break;
                case 4: racks[rack] = new BreathEv[n]; break;
                default: racks[rack] = new Ev[n];
            }
            return 1;
        });
    }

    int hold(int rack, int i, int event) {
        return (int) run(() -> {
            need(in(0, rack, 3));
            Ev e = event == NONE ? null : ev(event);
            racks[rack][i] = e;
            return 1;
        });
    }

    int held(int rack, int i) {
        return (int) run(() -> {
            need(in(0, rack, 3));
            return racks[rack][i].number;
        });
    }

    int slide(int rack, int i, int j, int n) {
        return (int) run(() -> {
            need(in(0, rack, 3));
            System.arraycopy(racks[rack], i, racks[rack], j, n);
            return n;
        });
    }

    int shelf(int shelf, int kind, int n) {
        return (int) run(() -> {
            need(in(0, shelf, 3) && in(0, kind, 3) && n <= 60);
            shelves[shelf] = kind == 0 ? new byte[n] : kind == 1 ? new short[n] : kind == 2 ? new char[n] : new int[n];
            return 1;
        });
    }

    private void set(int shelf, int i, int v) {
        Object row = shelves[shelf];
        if (row instanceof byte[] b) {
            b[i] = (byte) v;
        } else if (row instanceof short[] s) {
            s[i] = (short) v;
        } else if (row instanceof char[] c) {
            c[i] = (char) v;
        } else {
            ((int[]) row)[i] = v;
        }
    }

    private int get(int shelf, int i) {
        Object row = shelves[shelf];
        return row instanceof char[] c ? c[i] : Array.getInt(row, i);
    }

    int lay(int of, boolean rack, int shelf, int place) {
        return runCounting(() -> {
            need(in(0, shelf, 3));
            need(!rack || in(0, of, 3));
            Ev[] row = rack ? racks[of] : voice(of).toArray(new Ev[0]);
            for (Ev e : row) {
                int pitch = ((NoteEv) e).pitches.get(0);
                set(shelf, place + done, pitch);
                done++;
            }
            return done;
        });
    }

    int item(int shelf, int i) {
        long answer = run(() -> {
            need(in(0, shelf, 3));
            return get(shelf, i);
        });
        return status == BAD ? -2000 : status == NULL ? -2001 : status == INDEX ? -2002 : (int) answer;
    }

    int lift(int shelf, int i, int v) {
        return (int) run(() -> {
            need(in(0, shelf, 3));
            set(shelf, i, v);
            return 1;
        });
    }

    int copy(int shelf, int i, int other, int j, int n) {
        return (int) run(() -> {
            need(in(0, shelf, 3) && in(0, other, 3));
            refuse(shelves[shelf] == null || shelves[other] == null, NULL);
            refuse(shelves[shelf].getClass() != shelves[other].getClass(), CAST);
            System.arraycopy(shelves[shelf], i, shelves[other], j, n);
            return n;
        });
    }

    int play(int shelf, int voice) {
        return runCounting(() -> {
            need(in(0, shelf, 3));
            for (Ev e : voice(voice)) {
                if (e instanceof NoteEv n) {
                    int pitch = get(shelf, done);
                    refuse(!in(0, pitch, 127), INDEX);
                    n.move(pitch - n.pitches.get(0));
                    done++;
                }
            }
            return done;
        });
    }

    // ---- what is told

    int failures(int kind) {
        return in(0, kind, 4) ? failures[kind] : BAD;
    }

    int status() {
        return status;
    }

    long trace() {
        return trace;
    }

    int count(int what) {
        int[] all = {parts.size(), bars.size(), events.size(), eventsEver, tuplets.size(), lines.size(), findings.size()};
        return in(0, what, 6) ? all[what] : BAD;
    }
}
