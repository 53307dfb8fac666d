import java.util.Map;
import java.util.Set;
import java.util.TreeMap;
import java.util.TreeSet;

/** Boundary cases: each is about a sentence of the document, and looks at answer, status(), failures() and the rest. */
final class Cases {
    private static final int FAILURE_KINDS = 5;
    private static final Map<String, Integer> CODES = Map.of("NONE", StaveScore.NONE, "BAD", StaveScore.BAD,
        "STATE", StaveScore.STATE, "FULL", StaveScore.FULL, "NULL", StaveScore.NULL, "INDEX", StaveScore.INDEX,
        "CAST", StaveScore.CAST, "STORE", StaveScore.STORE, "SIZE", StaveScore.SIZE);

    private final Due due;
    /** By promise, which refusals were looked at. */
    private final Map<String, Set<String>> looked = new TreeMap<>();
    private String title = "";
    private String about = "";

    Cases(String test) {
        due = new Due(test);
    }

    /** What comes next is about this sentence of this section: "Terms", "Promise 4". */
    void about(String section, String sentence) {
        title = section;
        about = section + ", \"" + sentence + "\": ";
        due.holds(about + "the document says so", Document.says(section, sentence));
        looked.computeIfAbsent(section, s -> new TreeSet<>());
    }

    /** A call that is done: its answer, status() 0, and no failure. */
    void takes(Score score, String call, long answer) {
        look(score, call, answer, 0);
    }

    /** The same, and nothing has changed, but what other calls would have changed. */
    void takesAs(Score score, String call, long answer, String... others) {
        look(score, call, answer, 0);
        changesAs(score, call, others);
    }

    /** Calls that are refused: answer, status(), failures(), and nothing else has changed. */
    void refuses(Score score, int code, String... calls) {
        for (String call : calls) {
            look(score, call, told(Call.of(call).name(), code), code);
            changesAs(score, call);
        }
    }

    /** A call that ends ahead of its end: it has changed as much as the others would have. */
    void ends(Score score, int code, String call, long answer, String... others) {
        look(score, call, answer, code);
        changesAs(score, call, others);
    }

    void changesAs(Score score, String call, String... others) {
        String found = Picture.difference(score.with(others), score.withRefused(call));
        due.holds(about + call + " has changed what it should not: " + found, found.isEmpty());
    }

    void holds(String what, boolean truth) {
        due.holds(about + what, truth);
    }

    /** Answers of calls, one behind the other on one score. */
    void answers(Score score, Object... callsAndAnswers) {
        StaveScore made = score.make();
        for (int i = 0; i < callsAndAnswers.length; i += 2) {
            String call = (String) callsAndAnswers[i];
            long answer = ((Number) callsAndAnswers[i + 1]).longValue();
            due.is(about + call, Call.of(call).on(made), answer);
            note(call, answer, 0);
        }
    }

    private void look(Score score, String text, long answer, int status) {
        StaveScore made = score.make();
        // A call that changes nothing, but leaves another status() than the one that is due.
        Call.of(status == StaveScore.BAD ? "walked(-1)" : "part(-1)").on(made);
        int[] failures = new int[FAILURE_KINDS];
        for (int kind = 0; kind < FAILURE_KINDS; kind++) {
            failures[kind] = made.failures(kind);
        }
        due.is(about + text, Call.of(text).on(made), answer);
        due.is(about + text + ", status()", made.status(), status);
        for (int kind = 0; kind < FAILURE_KINDS; kind++) {
            int more = status == StaveScore.NULL - kind ? 1 : 0;
            due.is(about + text + ", failures(" + kind + ")", made.failures(kind), failures[kind] + more);
        }
        note(text, answer, status);
    }

    private void note(String call, long answer, int status) {
        for (Map.Entry<String, Integer> code : CODES.entrySet()) {
            boolean named = code.getKey().equals("NONE") && call.contains("NONE");
            if (named || answer == code.getValue() || status == code.getValue()) {
                looked.get(title).add(code.getKey());
            }
        }
    }

    private static int told(String name, int code) {
        switch (name + " " + code) {
            case "heard -2": case "asks -2": case "item -2": return -2000;
            case "heard -13": case "item -11": return -2001;
            case "item -12": return -2002;
            default: return code;
        }
    }

    /** Ends the test; of these promises, each refusal that the document names must have been looked at. */
    void finish(int firstPromise, int lastPromise) {
        for (int promise = firstPromise; promise <= lastPromise; promise++) {
            String section = "Promise " + promise;
            Set<String> missing = Document.refusals(section);
            due.holds(section + " has a boundary case", looked.containsKey(section));
            missing.removeAll(looked.getOrDefault(section, Set.of()));
            due.holds(section + ", not looked at: " + missing, missing.isEmpty());
        }
        due.finish();
    }

    void finish() {
        due.finish();
    }
}
