import java.util.ArrayList;
import java.util.List;

/**
 * All that a score tells, but status() and failures(): its answers to a long row of calls. As an object is
 * used for 512 calls at most, the row is asked in pieces, each of a score that is made anew.
 */
final class Picture {
    /** Calls that come first, and calls behind them that may be asked in pieces. */
    private record Group(List<String> first, List<String> rest) { }

    private final Score score;
    private final List<Group> groups = new ArrayList<>();

    private Picture(Score score) {
        this.score = score;
    }

    /** The first call that the two scores answer otherwise than one another, with both answers; "" if there is none. */
    static String difference(Score one, Score other) {
        Picture picture = new Picture(one);
        picture.plan();
        for (Group group : picture.groups) {
            String found = difference(group, one, other);
            if (!found.isEmpty()) {
                return found;
            }
        }
        return "";
    }

    private static String difference(Group group, Score one, Score other) {
        int room = Score.CALLS_OF_OBJECT - Math.max(one.size(), other.size()) - group.first.size();
        for (int start = 0; start == 0 || start < group.rest.size(); start += room) {
            StaveScore a = one.make();
            StaveScore b = other.make();
            List<String> asked = new ArrayList<>(group.first);
            asked.addAll(group.rest.subList(start, Math.min(group.rest.size(), start + room)));
            for (String text : asked) {
                Call call = Call.of(text);
                long had = call.on(a);
                long has = call.on(b);
                if (had != has) {
                    return text + " answers " + has + ", not " + had;
                }
            }
        }
        return "";
    }

    private void plan() {
        int events = score.make().count(3);
        planTold(events);
        planEvents(events);
        planVoices();
        planTupletsAndLines();
        planRows();
        planSounds(events);
        planWhatComesNext(events);
    }

    private void planTold(int events) {
        List<String> rest = reading();
        addUpTo(rest, 6, "count(?)");
        rest.add("trace()");
        addUpTo(rest, events, "walked(?)");
        for (int i = 0; i <= Math.min(100, score.make().count(6)); i++) {
            addUpTo(rest, 2, "finding(" + i + ", ?)");
        }
    }

    private void planEvents(int events) {
        List<String> rest = reading();
        for (int event = 0; event <= events; event++) {
            boolean there = score.make().at(event, 0) != StaveScore.BAD;
            addUpTo(rest, there ? 8 : 0, "at(" + event + ", ?)");
            addUpTo(rest, there ? 5 : 0, "time(" + event + ", ?)");
            addUpTo(rest, there ? 6 : 0, "pitch(" + event + ", ?)");
        }
    }

    private void planVoices() {
        List<String> rest = reading();
        for (int voice = 0; voice <= 3 * score.make().count(0); voice++) {
            addUpTo(rest, 1, "length(" + voice + ", ?)");
            StaveScore made = score.make();
            int size = 0;
            while (made.event(voice, size) >= 0) {
                size++;
            }
            addUpTo(rest, size, "event(" + voice + ", ?)");
        }
    }

    private void planTupletsAndLines() {
        List<String> rest = reading();
        for (int tuplet = 0; tuplet <= 20; tuplet++) {
            addUpTo(rest, score.make().tupletAt(tuplet, 0) == StaveScore.BAD ? 0 : 6, "tupletAt(" + tuplet + ", ?)");
        }
        for (int line = 0; line <= 30; line++) {
            addUpTo(rest, score.make().lineAt(line, 0) == StaveScore.BAD ? 0 : 2, "lineAt(" + line + ", ?)");
        }
    }

    /** What lies in the rows, and then, by what they take, of what kind they are. */
    private void planRows() {
        List<String> rest = reading();
        List<String> kinds = new ArrayList<>();
        for (int row = 0; row <= 3; row++) {
            rest.add("slide(" + row + ", 0, 0, 0)");
            addUpTo(rest, 20, "held(" + row + ", ?)");
            rest.add("copy(" + row + ", 0, " + row + ", 0, 0)");
            addUpTo(rest, 60, "item(" + row + ", ?)");
            addUpTo(kinds, 4, "hold(" + row + ", 0, ?)");
            for (String v : new String[] {"200", "40000", "MAX"}) {
                kinds.add("lift(" + row + ", 0, " + v + ")");
                kinds.add("item(" + row + ", 0)");
            }
        }
        groups.add(new Group(kinds, List.of()));
    }

    private void planSounds(int events) {
        List<String> rest = reading();
        for (int event = 0; event < events; event++) {
            addUpTo(rest, Math.max(0, score.make().at(event, 3) - 1), "heard(" + event + ", ?)");
        }
        for (int part = 0; part <= score.make().count(0); part++) {
            addUpTo(rest, 2, "asks(" + part + ", ?, 60)");
        }
    }

    private void planWhatComesNext(int events) {
        List<String> walked = new ArrayList<>();
        addUpTo(walked, events, "walked(?)");
        groups.add(new Group(List.of("walk()"), walked));
        List<String> found = new ArrayList<>();
        for (int i = 0; i <= Math.min(100, score.make().check()); i++) {
            addUpTo(found, 2, "finding(" + i + ", ?)");
        }
        groups.add(new Group(List.of("check()", "count(6)", "trace()"), found));
        groups.add(new Group(List.of("put(0, 0, 3, 0, 0, 0)", "tuplet(0, 0, 1, 3, 2, 0)", "line(0, " + events + ", NONE)",
            "bar(1, 1)", "part(0)", "count(3)", "count(1)", "count(0)"), List.of()));
    }

    private List<String> reading() {
        List<String> rest = new ArrayList<>();
        groups.add(new Group(List.of(), rest));
        return rest;
    }

    private static void addUpTo(List<String> calls, int last, String text) {
        for (int i = 0; i <= last; i++) {
            calls.add(text.replace("?", Integer.toString(i)));
        }
    }
}
