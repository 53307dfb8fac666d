import java.util.ArrayList;
import java.util.Arrays;
import java.util.List;
import java.util.function.IntFunction;

/** A score, held as the calls that make it, so that it can be made as often as a test wants it. */
final class Score {
    /** An object is used for so many calls at most. */
    static final int CALLS_OF_OBJECT = 512;

    private final List<Call> calls;

    private Score(List<Call> calls) {
        this.calls = calls;
    }

    static Score of(String... calls) {
        return new Score(List.of()).with(calls);
    }

    /** This score and calls behind it, none of which may be refused. */
    Score with(String... more) {
        if (calls.size() + 2 * more.length > CALLS_OF_OBJECT && more.length > 1) {
            int half = more.length / 2;
            return with(Arrays.copyOf(more, half)).with(Arrays.copyOfRange(more, half, more.length));
        }
        StaveScore made = make();
        for (String text : more) {
            Call.of(text).on(made);
            if (made.status() != 0) {
                throw new IllegalStateException(text + " was refused by " + made.status() + " behind " + this);
            }
        }
        return withRefused(more);
    }

    Score with(int many, IntFunction<String> call) {
        String[] more = new String[many];
        for (int i = 0; i < many; i++) {
            more[i] = call.apply(i);
        }
        return with(more);
    }

    /** This score and calls behind it, refused or not. */
    Score withRefused(String... more) {
        List<Call> all = new ArrayList<>(calls);
        for (String text : more) {
            all.add(Call.of(text));
        }
        return new Score(all);
    }

    StaveScore make() {
        StaveScore made = new StaveScore();
        for (Call call : calls) {
            call.on(made);
        }
        return made;
    }

    int size() {
        return calls.size();
    }

    @Override public String toString() {
        StringBuilder text = new StringBuilder();
        for (Call call : calls) {
            text.append(call.text()).append("; ");
        }
        return text.toString();
    }
}
