import java.util.Arrays;

/**
 * A score: parts, bars, events in voices, tuplets and lines over them, walks, findings,
 * racks of events and shelves of pitches. What each call must do is told by DOC.md.
 */
public final class StaveScore {
    public static final int NONE = -1, BAD = -2, STATE = -3, FULL = -4, NULL = -11, INDEX = -12, CAST = -13, STORE = -14, SIZE = -15;

    private static final int MAX_PARTS = 6, VOICES_OF_PART = 3, MAX_BARS = 24, MAX_BAR_UP = 64, MAX_BAR_DOWN = 32;
    private static final int MAX_EVENTS = 150, MAX_IN_VOICE = 40, MAX_IN_CHORD = 6, MAX_PITCH = 127;
    private static final int MAX_VALUE = 5, MAX_DOTS = 2;
    private static final int MAX_TUPLETS = 20, MAX_NESTED = 2, MAX_M = 8, MAX_LINES = 30;
    private static final int MAX_FINDINGS = 100, FINDING_WIDTH = 3;
    private static final int ROWS = 4, MAX_RACK = 20, MAX_SHELF = 60;
    private static final int FAILURE_KINDS = 5;

    private static final int PLAIN = 0, LOW = 1, BRASS = 2, HORN = 3, LOW_HORN = 4, DRUM = 5;
    private static final int NOTE = 0, CHORD = 1, GRACE = 2, REST = 3, BREATH = 4, ANY_EVENT = 5;
    private static final int OCTAVE = 2, PEDAL = 3, OCTAVE_STEPS = 12;
    private static final int BYTES = 0, SHORTS = 1, CHARS = 2, INTS = 3;
    private static final int OVER = 0, TIE = 1, RANGE = 2, SHORT = 3, LONG = 4, SUM = 5, OPEN = 6, BACK = 7;

    // heard, asks and item may answer any small number below 0, so that they tell a refusal by these.
    private static final int TOLD_NO_PITCH = -1000, TOLD_FIRST = -2000, TOLD_SECOND = -2001, TOLD_THIRD = -2002;

    // Times are whole numbers of 1 / WHOLE, without any rounding: 128 serves 1 / 32 with two dots,
    // and 44100 can be divided by each product of two of 3, 5, 6 and 7, as no event lies in three tuplets.
    private static final long WHOLE = 128L * 44100L;
    // Far above what Euclid's way needs for two longs.
    private static final int MAX_DIVISIONS = 200;

    private final Plain[] parts = new Plain[MAX_PARTS];
    private int partCount = 0;
    private final Voice[] voices = new Voice[MAX_PARTS * VOICES_OF_PART];
    private final long[] barEnds = new long[MAX_BARS];
    private int barCount = 0;
    private final Event[] events = new Event[MAX_EVENTS];
    private int eventCount = 0;
    private final Tuplet[] tuplets = new Tuplet[MAX_TUPLETS];
    private int tupletCount = 0;
    private final Line[] lines = new Line[MAX_LINES];
    private int lineCount = 0;
    private final int[] walkRow = new int[MAX_EVENTS];
    private int walkCount = 0;
    private final int[] findingRow = new int[MAX_FINDINGS * FINDING_WIDTH];
    private int findingCount = 0;
    private final Row[] racks = new Row[ROWS];
    private final Row[] shelves = new Row[ROWS];
    private final int[] failureCounts = new int[FAILURE_KINDS];
    private int latestStatus = 0;

    public StaveScore() {
    }

    // ---- parts, bars, events

    public int part(int kind) {
        if (kind < PLAIN || kind > DRUM) {
            return refuse(BAD);
        }
        if (partCount >= MAX_PARTS) {
            return refuse(FULL);
        }
        Plain instrument = newInstrument(kind);
        for (int i = 0; i < VOICES_OF_PART; i++) {
            int number = partCount * VOICES_OF_PART + i;
            voices[number] = new Voice(number, instrument);
        }
        parts[partCount] = instrument;
        partCount++;
        return done(partCount - 1);
    }

    public int bar(int up, int down) {
        boolean downIsTold = down >= 1 && down <= MAX_BAR_DOWN && Integer.bitCount(down) == 1;
        if (up < 1 || up > MAX_BAR_UP || !downIsTold) {
            return refuse(BAD);
        }
        if (barCount >= MAX_BARS) {
            return refuse(FULL);
        }
        barEnds[barCount] = barBegin(barCount) + up * (WHOLE / down);
        barCount++;
        return done(barCount - 1);
    }

    public int put(int voice, int place, int kind, int pitch, int value, int dots) {
        Voice into = voiceOf(voice);
        if (into == null || place < 0 || place > into.size || kind < NOTE || kind > BREATH) {
            return refuse(BAD);
        }
        if (isNoteKind(kind) && !isPitch(pitch) || !isValue(value) || !isDots(dots)) {
            return refuse(BAD);
        }
        if (eventCount >= MAX_EVENTS || into.size >= MAX_IN_VOICE) {
            return refuse(FULL);
        }
        Event event = new Event(eventCount, into, kind, pitch, value, dots);
        events[eventCount] = event;
        eventCount++;
        into.insert(place, event);
        for (int i = 0; i < tupletCount; i++) {
            Tuplet tuplet = tuplets[i];
            if (tuplet != null && tuplet.voice == into) {
                tuplet.makeRoom(place);
            }
        }
        layOut(into);
        return done(event.number);
    }

    public int drop(int event) {
        Event gone = eventOf(event);
        if (gone == null) {
            return refuse(BAD);
        }
        int place = gone.place;
        gone.voice.remove(place);
        events[event] = null;
        dropFromTuplets(gone.voice, place);
        dropFromLines(gone);
        dropFromRacks(event);
        layOut(gone.voice);
        return done(place);
    }

    public int chord(int event, int pitch) {
        Event of = eventOf(event);
        if (of == null || !isPitch(pitch)) {
            return refuse(BAD);
        }
        if (of.kind != CHORD) {
            return fail(CAST);
        }
        if (pitch <= of.highest()) {
            return refuse(STATE);
        }
        if (!of.addPitch(pitch)) {
            return refuse(FULL);
        }
        return done(of.pitchCount);
    }

    public int pitch(int event, int i) {
        Event of = eventOf(event);
        if (of == null) {
            return refuse(BAD);
        }
        if (!of.isNote()) {
            return fail(CAST);
        }
        return done(of.hasPitchAt(i) ? of.pitches[i] : NONE);
    }

    public int heard(int event, int i) {
        Event of = eventOf(event);
        if (of == null) {
            return refuseTelling(BAD, TOLD_FIRST);
        }
        if (!of.isNote()) {
            return failTelling(CAST, TOLD_SECOND);
        }
        if (!of.hasPitchAt(i)) {
            return done(TOLD_NO_PITCH);
        }
        return done(of.voice.instrument.soundOf(of.pitches[i]) + raiseOf(of));
    }

    public int shift(int event, int by) {
        Event of = eventOf(event);
        if (of == null) {
            return refuse(BAD);
        }
        if (!of.isNote()) {
            return fail(CAST);
        }
        if (!of.moveBy(by)) {
            return fail(INDEX);
        }
        return done(of.pitchCount);
    }

    public int transpose(int voice, int by) {
        Voice of = voiceOf(voice);
        if (of == null) {
            return refuse(BAD);
        }
        int moved = 0;
        for (int place = 0; place < of.size; place++) {
            Event event = of.events[place];
            if (event.isNote()) {
                if (!event.moveBy(by)) {
                    return failTelling(INDEX, moved);
                }
                moved++;
            }
        }
        return done(moved);
    }

    public int tie(int event, boolean on) {
        Event of = eventOf(event);
        if (of == null) {
            return refuse(BAD);
        }
        if (!of.isNote()) {
            return fail(CAST);
        }
        int was = of.tied ? 1 : 0;
        of.tied = on;
        return done(was);
    }

    public int value(int event, int value, int dots) {
        Event of = eventOf(event);
        if (of == null || !isValue(value) || !isDots(dots)) {
            return refuse(BAD);
        }
        of.value = value;
        of.dots = dots;
        layOut(of.voice);
        return done(1);
    }

    public int at(int event, int what) {
        Event of = eventOf(event);
        if (of == null) {
            return refuse(BAD);
        }
        switch (what) {
            case 0: return done(of.voice.number);
            case 1: return done(of.place);
            case 2: return done(of.kind);
            case 3: return done(of.pitchCount);
            case 4: return done(of.tied ? 1 : 0);
            case 5: return done(tupletsOver(of.voice, of.place));
            case 6: return done(barAround(of.begins));
            case 7: return done(of.value);
            case 8: return done(of.dots);
            default: return refuse(BAD);
        }
    }

    public long time(int event, int what) {
        Event of = eventOf(event);
        if (of == null) {
            return refuse(BAD);
        }
        switch (what) {
            case 0: return doneLong(upOf(of.begins));
            case 1: return doneLong(downOf(of.begins));
            case 2: return doneLong(upOf(of.lasts));
            case 3: return doneLong(downOf(of.lasts));
            case 4: return doneLong(upOf(sinceBar(of.begins)));
            case 5: return doneLong(downOf(sinceBar(of.begins)));
            default: return refuse(BAD);
        }
    }

    public long length(int voice, int what) {
        Voice of = voiceOf(voice);
        if (of == null) {
            return refuse(BAD);
        }
        switch (what) {
            case 0: return doneLong(upOf(of.lasts));
            case 1: return doneLong(downOf(of.lasts));
            default: return refuse(BAD);
        }
    }

    public int event(int voice, int place) {
        Voice of = voiceOf(voice);
        if (of == null) {
            return refuse(BAD);
        }
        Event there = of.eventAt(place);
        return done(there == null ? NONE : there.number);
    }

    public int asks(int part, int what, int pitch) {
        if (part < 0 || part >= partCount) {
            return refuseTelling(BAD, TOLD_FIRST);
        }
        Plain instrument = parts[part];
        switch (what) {
            case 0: return done(instrument.soundOf(pitch));
            case 1: return done(instrument.least());
            case 2: return done(instrument.most());
            default: return refuseTelling(BAD, TOLD_FIRST);
        }
    }

    // ---- tuplets, lines

    public int tuplet(int voice, int from, int many, int n, int m, int unit) {
        Voice of = voiceOf(voice);
        if (of == null || from < 0 || many < 1 || from > of.size - many) {
            return refuse(BAD);
        }
        if (!isTupletN(n) || m < 1 || m > MAX_M || !isValue(unit)) {
            return refuse(BAD);
        }
        if (!tupletFits(of, from, many)) {
            return refuse(STATE);
        }
        if (tupletCount >= MAX_TUPLETS) {
            return refuse(FULL);
        }
        tuplets[tupletCount] = new Tuplet(tupletCount, of, from, many, n, m, unit);
        tupletCount++;
        layOut(of);
        return done(tupletCount - 1);
    }

    public int untuplet(int tuplet) {
        Tuplet gone = tupletOf(tuplet);
        if (gone == null) {
            return refuse(BAD);
        }
        tuplets[tuplet] = null;
        layOut(gone.voice);
        return done(gone.many);
    }

    public int tupletAt(int tuplet, int what) {
        Tuplet of = tupletOf(tuplet);
        if (of == null) {
            return refuse(BAD);
        }
        switch (what) {
            case 0: return done(of.voice.number);
            case 1: return done(of.first);
            case 2: return done(of.many);
            case 3: return done(of.n);
            case 4: return done(of.m);
            case 5: return done(of.unit);
            case 6: return done(tupletsAround(of));
            default: return refuse(BAD);
        }
    }

    public int line(int kind, int from, int to) {
        Event begin = eventOf(from);
        if (kind < 0 || kind > PEDAL || begin == null || !isLineEnd(to)) {
            return refuse(BAD);
        }
        if (lineCount >= MAX_LINES) {
            return refuse(FULL);
        }
        lines[lineCount] = new Line(kind, begin, eventOf(to));
        lineCount++;
        return done(lineCount - 1);
    }

    public int end(int line, int to) {
        Line of = lineOf(line);
        if (of == null || !isLineEnd(to)) {
            return refuse(BAD);
        }
        of.to = eventOf(to);
        return done(1);
    }

    public int lineAt(int line, int what) {
        Line of = lineOf(line);
        if (of == null) {
            return refuse(BAD);
        }
        switch (what) {
            case 0: return done(of.kind);
            case 1: return done(of.from.number);
            case 2: return done(of.to == null ? NONE : of.to.number);
            default: return refuse(BAD);
        }
    }

    // ---- walks, what is wrong

    public int walk() {
        int voiceCount = partCount * VOICES_OF_PART;
        for (int i = 0; i < voiceCount; i++) {
            voices[i].walkedTo = 0;
        }
        walkCount = 0;
        for (int i = 0; i < MAX_EVENTS; i++) {
            Event next = nextToWalk(voiceCount);
            if (next == null) {
                break;
            }
            walkRow[i] = next.number;
            next.voice.walkedTo++;
            walkCount++;
        }
        return done(walkCount);
    }

    public int walked(int i) {
        return done(i < 0 || i >= walkCount ? NONE : walkRow[i]);
    }

    public int check() {
        findingCount = 0;
        int voiceCount = partCount * VOICES_OF_PART;
        for (int i = 0; i < voiceCount; i++) {
            findInVoice(voices[i]);
        }
        for (int i = 0; i < tupletCount; i++) {
            if (tuplets[i] != null && !tupletIsFull(tuplets[i])) {
                addFinding(SUM, i, NONE);
            }
        }
        for (int i = 0; i < lineCount; i++) {
            if (lines[i] != null) {
                findInLine(lines[i], i);
            }
        }
        return done(findingCount);
    }

    public int finding(int i, int what) {
        if (what < 0 || what >= FINDING_WIDTH) {
            return refuse(BAD);
        }
        if (i < 0 || i >= Math.min(findingCount, MAX_FINDINGS)) {
            return done(NONE);
        }
        return done(findingRow[i * FINDING_WIDTH + what]);
    }

    public int equal(int voice, int other) {
        Voice one = voiceOf(voice);
        Voice two = voiceOf(other);
        if (one == null || two == null) {
            return refuse(BAD);
        }
        return done(one.hasEventsLike(two) && tupletsAlike(one, two) ? 1 : 0);
    }

    // ---- racks, shelves

    public int rack(int rack, int kind, int n) {
        if (!isRowNumber(rack) || kind < NOTE || kind > ANY_EVENT || n > MAX_RACK) {
            return refuse(BAD);
        }
        if (n < 0) {
            return fail(SIZE);
        }
        racks[rack] = new Row(kind, n, NONE);
        return done(1);
    }

    public int hold(int rack, int i, int event) {
        Event of = eventOf(event);
        if (!isRowNumber(rack) || of == null && event != NONE) {
            return refuse(BAD);
        }
        Row row = racks[rack];
        if (row == null) {
            return fail(NULL);
        }
        if (!row.has(i)) {
            return fail(INDEX);
        }
        if (of != null && !rackTakes(row.kind, of)) {
            return fail(STORE);
        }
        row.items[i] = event;
        return done(1);
    }

    public int held(int rack, int i) {
        if (!isRowNumber(rack)) {
            return refuse(BAD);
        }
        Row row = racks[rack];
        if (row == null) {
            return fail(NULL);
        }
        if (!row.has(i)) {
            return fail(INDEX);
        }
        if (row.items[i] == NONE) {
            return fail(NULL);
        }
        return done(row.items[i]);
    }

    public int slide(int rack, int i, int j, int n) {
        if (!isRowNumber(rack)) {
            return refuse(BAD);
        }
        Row row = racks[rack];
        if (row == null) {
            return fail(NULL);
        }
        if (!row.hasAll(i, n) || !row.hasAll(j, n)) {
            return fail(INDEX);
        }
        System.arraycopy(row.items, i, row.items, j, n);
        return done(n);
    }

    public int shelf(int shelf, int kind, int n) {
        if (!isRowNumber(shelf) || kind < BYTES || kind > INTS || n > MAX_SHELF) {
            return refuse(BAD);
        }
        if (n < 0) {
            return fail(SIZE);
        }
        shelves[shelf] = new Row(kind, n, 0);
        return done(1);
    }

    public int lay(int of, boolean rack, int shelf, int place) {
        if (!isRowNumber(shelf)) {
            return refuse(BAD);
        }
        return rack ? layRack(of, shelves[shelf], place) : layVoice(of, shelves[shelf], place);
    }

    public int item(int shelf, int i) {
        if (!isRowNumber(shelf)) {
            return refuseTelling(BAD, TOLD_FIRST);
        }
        Row row = shelves[shelf];
        if (row == null) {
            return failTelling(NULL, TOLD_SECOND);
        }
        if (!row.has(i)) {
            return failTelling(INDEX, TOLD_THIRD);
        }
        return done(row.items[i]);
    }

    public int lift(int shelf, int i, int v) {
        if (!isRowNumber(shelf)) {
            return refuse(BAD);
        }
        Row row = shelves[shelf];
        if (row == null) {
            return fail(NULL);
        }
        if (!row.has(i)) {
            return fail(INDEX);
        }
        row.items[i] = lowestBits(row.kind, v);
        return done(1);
    }

    public int copy(int shelf, int i, int other, int j, int n) {
        if (!isRowNumber(shelf) || !isRowNumber(other)) {
            return refuse(BAD);
        }
        Row from = shelves[shelf];
        Row to = shelves[other];
        if (from == null || to == null) {
            return fail(NULL);
        }
        if (from.kind != to.kind) {
            return fail(CAST);
        }
        if (!from.hasAll(i, n) || !to.hasAll(j, n)) {
            return fail(INDEX);
        }
        System.arraycopy(from.items, i, to.items, j, n);
        return done(n);
    }

    public int play(int shelf, int voice) {
        Voice of = voiceOf(voice);
        if (of == null || !isRowNumber(shelf)) {
            return refuse(BAD);
        }
        Row row = shelves[shelf];
        int moved = 0;
        for (int place = 0; place < of.size; place++) {
            Event event = of.events[place];
            if (event.isNote()) {
                // The row is met by the first note only: a voice without notes asks nothing of it.
                if (row == null) {
                    return failTelling(NULL, moved);
                }
                if (!row.has(moved) || !event.moveBy((long) row.items[moved] - event.lowest())) {
                    return failTelling(INDEX, moved);
                }
                moved++;
            }
        }
        return done(moved);
    }

    // ---- what is told

    public int failures(int kind) {
        return kind < 0 || kind >= FAILURE_KINDS ? BAD : failureCounts[kind];
    }

    public int status() {
        return latestStatus;
    }

    public long trace() {
        long sum = 0;
        for (int i = 0; i < partCount; i++) {
            sum += parts[i].asked;
        }
        return sum;
    }

    public int count(int what) {
        switch (what) {
            case 0: return partCount;
            case 1: return barCount;
            case 2: return eventsThere();
            case 3: return eventCount;
            case 4: return tupletsThere();
            case 5: return linesThere();
            case 6: return findingCount;
            default: return BAD;
        }
    }

    // ---- how a call ends

    private int done(int answer) {
        latestStatus = 0;
        return answer;
    }

    private long doneLong(long answer) {
        latestStatus = 0;
        return answer;
    }

    private int refuse(int code) {
        return refuseTelling(code, code);
    }

    private int refuseTelling(int code, int answer) {
        latestStatus = code;
        return answer;
    }

    private int fail(int code) {
        return failTelling(code, code);
    }

    private int failTelling(int code, int answer) {
        int kind = NULL - code;
        if (kind >= 0 && kind < FAILURE_KINDS) {
            failureCounts[kind]++;
        }
        return refuseTelling(code, answer);
    }

    // ---- what is as told

    private static boolean isNoteKind(int kind) {
        return kind == NOTE || kind == CHORD || kind == GRACE;
    }

    private static boolean isPitch(long pitch) {
        return pitch >= 0 && pitch <= MAX_PITCH;
    }

    private static boolean isValue(int value) {
        return value >= 0 && value <= MAX_VALUE;
    }

    private static boolean isDots(int dots) {
        return dots >= 0 && dots <= MAX_DOTS;
    }

    private static boolean isTupletN(int n) {
        return n == 3 || n == 5 || n == 6 || n == 7;
    }

    private static boolean isRowNumber(int number) {
        return number >= 0 && number < ROWS;
    }

    private boolean isLineEnd(int to) {
        return to == NONE || eventOf(to) != null;
    }

    // ---- what bears a number (null: there is no such)

    private Voice voiceOf(int number) {
        return number < 0 || number >= partCount * VOICES_OF_PART ? null : voices[number];
    }

    private Event eventOf(int number) {
        return number < 0 || number >= eventCount ? null : events[number];
    }

    private Tuplet tupletOf(int number) {
        return number < 0 || number >= tupletCount ? null : tuplets[number];
    }

    private Line lineOf(int number) {
        return number < 0 || number >= lineCount ? null : lines[number];
    }

    private int eventsThere() {
        int there = 0;
        for (int i = 0; i < eventCount; i++) {
            there += events[i] == null ? 0 : 1;
        }
        return there;
    }

    private int tupletsThere() {
        int there = 0;
        for (int i = 0; i < tupletCount; i++) {
            there += tuplets[i] == null ? 0 : 1;
        }
        return there;
    }

    private int linesThere() {
        int there = 0;
        for (int i = 0; i < lineCount; i++) {
            there += lines[i] == null ? 0 : 1;
        }
        return there;
    }

    // ---- instruments

    private static Plain newInstrument(int kind) {
        switch (kind) {
            case LOW: return new Low();
            case BRASS: return new Brass();
            case HORN: return new Horn();
            case LOW_HORN: return new LowHorn();
            case DRUM: return new Drum();
            default: return new Plain();
        }
    }

    private int raiseOf(Event event) {
        int raise = 0;
        for (int i = 0; i < lineCount; i++) {
            if (lines[i] != null && lines[i].raises(event)) {
                raise += OCTAVE_STEPS;
            }
        }
        return raise;
    }

    // ---- times

    // Places, times and beginnings are kept with the events: every call that changes one of them lays out anew.
    private void layOut(Voice voice) {
        voice.numberPlaces();
        for (int i = 0; i < tupletCount; i++) {
            if (tuplets[i] != null && tuplets[i].voice == voice) {
                tuplets[i].squeezeEvents();
            }
        }
        voice.sumTimes();
    }

    private long barBegin(int bar) {
        return bar < 1 || bar > barCount ? 0 : barEnds[bar - 1];
    }

    private int barAround(long moment) {
        for (int i = 0; i < barCount; i++) {
            if (moment < barEnds[i]) {
                return i;
            }
        }
        return NONE;
    }

    private long sinceBar(long moment) {
        int bar = barAround(moment);
        return bar == NONE ? 0 : moment - barBegin(bar);
    }

    private static long upOf(long moment) {
        return moment / divisorOf(moment);
    }

    private static long downOf(long moment) {
        return WHOLE / divisorOf(moment);
    }

    private static long divisorOf(long moment) {
        long greater = WHOLE;
        long rest = moment;
        for (int i = 0; i < MAX_DIVISIONS && rest != 0; i++) {
            long next = greater % rest;
            greater = rest;
            rest = next;
        }
        return Math.max(1, greater);
    }

    // ---- what goes with an event

    private void dropFromTuplets(Voice voice, int place) {
        for (int i = 0; i < tupletCount; i++) {
            Tuplet tuplet = tuplets[i];
            if (tuplet != null && tuplet.voice == voice) {
                tuplet.closeUp(place);
                if (tuplet.many == 0) {
                    tuplets[i] = null;
                }
            }
        }
    }

    private void dropFromLines(Event gone) {
        for (int i = 0; i < lineCount; i++) {
            Line line = lines[i];
            if (line != null && line.from == gone) {
                lines[i] = null;
            } else if (line != null && line.to == gone) {
                line.to = null;
            }
        }
    }

    private void dropFromRacks(int event) {
        for (int i = 0; i < ROWS; i++) {
            if (racks[i] != null) {
                racks[i].replaceAll(event, NONE);
            }
        }
    }

    // ---- tuplets in one another

    private int tupletsOver(Voice voice, int place) {
        int over = 0;
        for (int i = 0; i < tupletCount; i++) {
            Tuplet tuplet = tuplets[i];
            if (tuplet != null && tuplet.voice == voice && tuplet.covers(place)) {
                over++;
            }
        }
        return over;
    }

    private int tupletsAround(Tuplet inner) {
        int around = 0;
        for (int i = 0; i < tupletCount; i++) {
            if (tuplets[i] != null && inner.liesIn(tuplets[i])) {
                around++;
            }
        }
        return around;
    }

    private boolean tupletFits(Voice voice, int first, int many) {
        for (int place = first; place < first + many; place++) {
            if (tupletsOver(voice, place) >= MAX_NESTED) {
                return false;
            }
        }
        for (int i = 0; i < tupletCount; i++) {
            if (tuplets[i] != null && tuplets[i].voice == voice && tuplets[i].crosses(first, many)) {
                return false;
            }
        }
        return true;
    }

    private Tuplet innerAt(Tuplet outer, int place) {
        for (int i = 0; i < tupletCount; i++) {
            if (tuplets[i] != null && tuplets[i].liesIn(outer) && tuplets[i].covers(place)) {
                return tuplets[i];
            }
        }
        return null;
    }

    private boolean tupletIsFull(Tuplet tuplet) {
        long sum = 0;
        for (int place = tuplet.first; place < tuplet.first + tuplet.many; place++) {
            Event event = tuplet.voice.eventAt(place);
            if (event != null) {
                Tuplet inner = innerAt(tuplet, place);
                sum += inner == null ? event.writtenTime() : inner.squeezed(event.writtenTime());
            }
        }
        return sum == tuplet.n * (WHOLE >> tuplet.unit);
    }

    private boolean tupletsAlike(Voice one, Voice two) {
        int i = nextTuplet(one, 0);
        int j = nextTuplet(two, 0);
        for (int pair = 0; pair < MAX_TUPLETS && i < tupletCount && j < tupletCount; pair++) {
            if (!tuplets[i].looksLike(tuplets[j])) {
                return false;
            }
            i = nextTuplet(one, i + 1);
            j = nextTuplet(two, j + 1);
        }
        return i >= tupletCount && j >= tupletCount;
    }

    private int nextTuplet(Voice voice, int from) {
        for (int i = from; i < tupletCount; i++) {
            if (tuplets[i] != null && tuplets[i].voice == voice) {
                return i;
            }
        }
        return tupletCount;
    }

    // ---- walks and findings

    // Within a voice no event begins ahead of the one before it, so that only the next of each voice can be first.
    private Event nextToWalk(int voiceCount) {
        Event first = null;
        for (int i = 0; i < voiceCount; i++) {
            Event next = voices[i].eventAt(voices[i].walkedTo);
            if (next != null && (first == null || next.begins < first.begins)) {
                first = next;
            }
        }
        return first;
    }

    private void findInVoice(Voice voice) {
        for (int place = 0; place < voice.size; place++) {
            findInEvent(voice.events[place]);
        }
        if (voice.size > 0 && voice.lasts < barBegin(barCount)) {
            addFinding(SHORT, voice.number, NONE);
        }
        if (voice.size > 0 && voice.lasts > barBegin(barCount)) {
            addFinding(LONG, voice.number, NONE);
        }
    }

    private void findInEvent(Event event) {
        int bar = barAround(event.begins);
        if (bar != NONE && event.begins + event.lasts > barEnds[bar]) {
            addFinding(OVER, event.number, bar);
        }
        if (event.tied && !tieIsMet(event)) {
            addFinding(TIE, event.number, NONE);
        }
        if (isOutOfRange(event)) {
            addFinding(RANGE, event.number, NONE);
        }
    }

    private static boolean tieIsMet(Event event) {
        Event next = event.voice.nextForTie(event.place + 1);
        return next != null && next.isNote() && next.hasAllPitchesOf(event);
    }

    private boolean isOutOfRange(Event event) {
        Plain instrument = event.voice.instrument;
        int raise = raiseOf(event);
        for (int i = 0; i < event.pitchCount; i++) {
            int sound = instrument.soundOf(event.pitches[i]) + raise;
            // The trace tells each asking: most is asked only where least does not decide.
            if (sound < instrument.least() || sound > instrument.most()) {
                return true;
            }
        }
        return false;
    }

    private void findInLine(Line line, int number) {
        if (line.to == null) {
            addFinding(OPEN, number, NONE);
        } else if (line.to.begins < line.from.begins) {
            addFinding(BACK, number, NONE);
        }
    }

    private void addFinding(int kind, int of, int bar) {
        if (findingCount < MAX_FINDINGS) {
            int start = findingCount * FINDING_WIDTH;
            findingRow[start] = kind;
            findingRow[start + 1] = of;
            findingRow[start + 2] = bar;
        }
        findingCount++;
    }

    // ---- rows

    private static boolean rackTakes(int kind, Event event) {
        switch (kind) {
            case ANY_EVENT: return true;
            case NOTE: return event.isNote();
            case REST: return !event.isNote();
            default: return event.kind == kind;
        }
    }

    private static int lowestBits(int kind, int v) {
        switch (kind) {
            case BYTES: return (byte) v;
            case SHORTS: return (short) v;
            case CHARS: return (char) v;
            default: return v;
        }
    }

    private int layVoice(int number, Row shelf, int place) {
        Voice voice = voiceOf(number);
        if (voice == null) {
            return refuse(BAD);
        }
        for (int i = 0; i < voice.size; i++) {
            int ending = layOne(voice.events[i], shelf, place + i);
            if (ending != 0) {
                return failTelling(ending, i);
            }
        }
        return done(voice.size);
    }

    private int layRack(int number, Row shelf, int place) {
        if (!isRowNumber(number)) {
            return refuse(BAD);
        }
        Row rack = racks[number];
        if (rack == null) {
            return failTelling(NULL, 0);
        }
        for (int i = 0; i < rack.items.length; i++) {
            int ending = layOne(eventOf(rack.items[i]), shelf, place + i);
            if (ending != 0) {
                return failTelling(ending, i);
            }
        }
        return done(rack.items.length);
    }

    // Answers what laying ends at, or 0 where the pitch was laid.
    private static int layOne(Event event, Row shelf, int place) {
        if (event == null) {
            return NULL;
        }
        if (!event.isNote()) {
            return CAST;
        }
        if (shelf == null) {
            return NULL;
        }
        if (!shelf.has(place)) {
            return INDEX;
        }
        shelf.items[place] = lowestBits(shelf.kind, event.lowest());
        return 0;
    }

    // ---- the kinds of instruments: each adds to what it was asked, for the trace

    private static class Plain {
        long asked = 0;

        int soundOf(int pitch) {
            asked += 1;
            return pitch;
        }

        int least() {
            return 21;
        }

        int most() {
            return 108;
        }
    }

    private static final class Low extends Plain {
        int soundOf(int pitch) {
            asked += 10;
            return super.soundOf(pitch) - 12;
        }
    }

    private static class Brass extends Plain {
        int least() {
            return 28;
        }

        int most() {
            return super.most() - 26;
        }
    }

    private static class Horn extends Brass {
        int soundOf(int pitch) {
            asked += 100;
            return super.soundOf(pitch) - 7;
        }
    }

    private static final class LowHorn extends Horn {
        int soundOf(int pitch) {
            asked += 1000;
            return super.soundOf(pitch) - 12;
        }

        int least() {
            asked += 100000;
            return super.least() - 5;
        }
    }

    private static final class Drum extends Plain {
        int soundOf(int pitch) {
            asked += 10000;
            return 35;
        }
    }

    private static final class Event {
        final int number;
        final Voice voice;
        final int kind;
        final int[] pitches;
        int pitchCount = 0;
        int value;
        int dots;
        boolean tied = false;
        int place = 0;
        long begins = 0;
        long lasts = 0;

        Event(int number, Voice voice, int kind, int pitch, int value, int dots) {
            this.number = number;
            this.voice = voice;
            this.kind = kind;
            this.value = value;
            this.dots = dots;
            pitches = new int[kind == CHORD ? MAX_IN_CHORD : 1];
            if (isNoteKind(kind)) {
                pitches[0] = pitch;
                pitchCount = 1;
            }
        }

        boolean isNote() {
            return isNoteKind(kind);
        }

        boolean isWithoutTime() {
            return kind == GRACE || kind == BREATH;
        }

        long writtenTime() {
            if (isWithoutTime()) {
                return 0;
            }
            long plain = WHOLE >> value;
            switch (dots) {
                case 1: return plain + (plain >> 1);
                case 2: return plain + (plain >> 1) + (plain >> 2);
                default: return plain;
            }
        }

        boolean hasPitchAt(int i) {
            return i >= 0 && i < pitchCount;
        }

        int lowest() {
            return pitchCount > 0 ? pitches[0] : NONE;
        }

        int highest() {
            return pitchCount > 0 ? pitches[pitchCount - 1] : NONE;
        }

        boolean addPitch(int pitch) {
            if (pitchCount >= pitches.length) {
                return false;
            }
            pitches[pitchCount] = pitch;
            pitchCount++;
            return true;
        }

        // A long, as the way from a pitch to any int may be longer than an int.
        boolean moveBy(long by) {
            if (!isPitch(lowest() + by) || !isPitch(highest() + by)) {
                return false;
            }
            for (int i = 0; i < pitchCount; i++) {
                pitches[i] = (int) (pitches[i] + by);
            }
            return true;
        }

        boolean hasPitch(int pitch) {
            for (int i = 0; i < pitchCount; i++) {
                if (pitches[i] == pitch) {
                    return true;
                }
            }
            return false;
        }

        boolean hasAllPitchesOf(Event other) {
            for (int i = 0; i < other.pitchCount; i++) {
                if (!hasPitch(other.pitches[i])) {
                    return false;
                }
            }
            return true;
        }

        boolean looksLike(Event other) {
            return kind == other.kind && value == other.value && dots == other.dots && tied == other.tied
                && pitchCount == other.pitchCount && hasAllPitchesOf(other);
        }
    }

    private static final class Voice {
        final int number;
        final Plain instrument;
        final Event[] events = new Event[MAX_IN_VOICE];
        int size = 0;
        int walkedTo = 0;
        long lasts = 0;

        Voice(int number, Plain instrument) {
            this.number = number;
            this.instrument = instrument;
        }

        Event eventAt(int place) {
            return place < 0 || place >= size ? null : events[place];
        }

        void insert(int place, Event event) {
            if (place < 0 || place > size || size >= MAX_IN_VOICE) {
                return;
            }
            for (int i = size; i > place; i--) {
                events[i] = events[i - 1];
            }
            events[place] = event;
            size++;
        }

        void remove(int place) {
            if (place < 0 || place >= size) {
                return;
            }
            size--;
            for (int i = place; i < size; i++) {
                events[i] = events[i + 1];
            }
            events[size] = null;
        }

        void numberPlaces() {
            for (int i = 0; i < size; i++) {
                events[i].place = i;
                events[i].lasts = events[i].writtenTime();
            }
        }

        void sumTimes() {
            lasts = 0;
            for (int i = 0; i < size; i++) {
                events[i].begins = lasts;
                lasts += events[i].lasts;
            }
        }

        Event nextForTie(int from) {
            for (int i = from; i < size; i++) {
                Event event = eventAt(i);
                if (event != null && !event.isWithoutTime()) {
                    return event;
                }
            }
            return null;
        }

        boolean hasEventsLike(Voice other) {
            if (size != other.size) {
                return false;
            }
            for (int i = 0; i < size; i++) {
                if (!events[i].looksLike(other.events[i])) {
                    return false;
                }
            }
            return true;
        }
    }

    private static final class Tuplet {
        final int number;
        final Voice voice;
        int first;
        int many;
        final int n;
        final int m;
        final int unit;

        Tuplet(int number, Voice voice, int first, int many, int n, int m, int unit) {
            this.number = number;
            this.voice = voice;
            this.first = first;
            this.many = many;
            this.n = n;
            this.m = m;
            this.unit = unit;
        }

        boolean covers(int place) {
            return place >= first && place < first + many;
        }

        boolean liesIn(Tuplet other) {
            boolean within = voice == other.voice && first >= other.first && first + many <= other.first + other.many;
            return within && (many < other.many || number > other.number);
        }

        boolean crosses(int otherFirst, int otherMany) {
            int last = first + many;
            int otherLast = otherFirst + otherMany;
            boolean apart = last <= otherFirst || otherLast <= first;
            boolean within = first >= otherFirst && last <= otherLast;
            boolean around = first <= otherFirst && last >= otherLast;
            return !apart && !within && !around;
        }

        void makeRoom(int place) {
            if (place <= first) {
                first++;
            } else if (covers(place)) {
                many++;
            }
        }

        void closeUp(int place) {
            if (place < first) {
                first--;
            } else if (covers(place)) {
                many--;
            }
        }

        long squeezed(long ticks) {
            return n < 1 ? ticks : ticks * m / n;
        }

        void squeezeEvents() {
            for (int i = first; i < first + many; i++) {
                Event event = voice.eventAt(i);
                if (event != null) {
                    event.lasts = squeezed(event.lasts);
                }
            }
        }

        boolean looksLike(Tuplet other) {
            return n == other.n && m == other.m && unit == other.unit && first == other.first && many == other.many;
        }
    }

    private static final class Line {
        final int kind;
        final Event from;
        Event to;

        Line(int kind, Event from, Event to) {
            this.kind = kind;
            this.from = from;
            this.to = to;
        }

        boolean raises(Event event) {
            return kind == OCTAVE && to != null && from.voice == event.voice && to.voice == event.voice
                && from.place <= event.place && event.place <= to.place;
        }
    }

    private static final class Row {
        final int kind;
        final int[] items;

        Row(int kind, int n, int filling) {
            this.kind = kind;
            items = new int[Math.max(0, n)];
            Arrays.fill(items, filling);
        }

        boolean has(int i) {
            return i >= 0 && i < items.length;
        }

        // Like that of arrays, the place behind the last one is there for a run of none.
        boolean hasAll(int i, int n) {
            return i >= 0 && n >= 0 && i <= items.length - n;
        }

        void replaceAll(int old, int now) {
            for (int i = 0; i < items.length; i++) {
                if (items[i] == old) {
                    items[i] = now;
                }
            }
        }
    }
}
