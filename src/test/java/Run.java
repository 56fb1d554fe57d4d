import java.util.ArrayList;
import java.util.List;

/**
 * A run of calls that is made again, on a new object, for each question: so no question changes what the next one is asked
 * about, what is fed can be looked at too, and no object is used for more than 512 calls.
 */
final class Run {
    interface Step {
        Object on(Counted twin);
    }

    static final Run NEW = new Run(List.of());

    private final List<Step> steps;

    private Run(List<Step> steps) {
        this.steps = steps;
    }

    /** This run and one step more, whether it is refused or not. */
    Run then(Step step) {
        List<Step> more = new ArrayList<>(steps);
        more.add(step);
        return new Run(more);
    }

    Run feed(String octets) {
        return then(twin -> {
            twin.feed(octets);
            return 0;
        });
    }

    Run read(int t, String octets) {
        return feed(octets).then(twin -> twin.read(t, octets.length()));
    }

    Run write(int t, int v) {
        return then(twin -> twin.write(t, v));
    }

    private Counted again() {
        Counted twin = new Counted();
        for (Step step : steps) {
            Bench.answerOf(() -> step.on(twin));
        }
        return twin;
    }

    String answer(Step question) {
        Counted twin = again();
        return Bench.answerOf(() -> question.on(twin));
    }

    int number(Step question) {
        return Integer.parseInt(answer(question));
    }

    /** The step answers what is due. */
    Run takes(String what, Step step, Object due) {
        Bench.due(what, answer(step), String.valueOf(due));
        return then(step);
    }

    /** The step throws what is due, and all stays. */
    Run refuses(String what, Step step, String due) {
        Bench.due(what, answer(step), due);
        Run behind = then(step);
        Bench.due("state behind the refused " + what, behind.state(), state());
        return behind;
    }

    /** What the calls show: both TEXTS, where the latest was WRONG, what was WRITTEN, what is fed. */
    String state() {
        return text(0) + text(1) + "wrong " + answer(Counted::wrong) + " WRITTEN " + written() + fed();
    }

    /** All that is told of a TEXT and its VALUES. */
    String text(int t) {
        StringBuilder seen = new StringBuilder("TEXT " + t + ":");
        Counted twin = again();
        int values = twin.count(t);
        for (int v = 0; v < values; v++) {
            for (int what = 0; what < 8; what++) {
                twin = withCallsLeft(twin);
                seen.append(' ').append(twin.value(t, v, what));
            }
            twin = letters(twin, t, v, seen);
        }
        return seen.append('\n').toString();
    }

    private Counted letters(Counted first, int t, int v, StringBuilder seen) {
        Counted twin = withCallsLeft(first);
        int kind = twin.value(t, v, 0);
        twin = withCallsLeft(twin);
        int letters = kind == JsonTwin.STRING || kind == JsonTwin.NUMBER ? twin.value(t, v, 3) : 0;
        seen.append(" (");
        for (int k = 0; k < letters; k++) {
            twin = withCallsLeft(twin);
            seen.append(' ').append(twin.letter(t, v, k));
        }
        seen.append(")");
        return twin;
    }

    private Counted withCallsLeft(Counted twin) {
        return twin.callsLeft() > 0 ? twin : again();
    }

    /** The octets that were WRITTEN; those behind their end have to be 0. */
    String written() {
        Counted twin = again();
        int size = twin.count(3);
        StringBuilder written = new StringBuilder();
        for (int k = 0; 8 * k < size; k++) {
            twin = withCallsLeft(twin);
            long eight = twin.octets(k);
            for (int shift = 56; shift >= 0; shift -= 8) {
                written.append((char) (eight >> shift & 255));
            }
        }
        Bench.due("octets behind the end", written.substring(size), "\0".repeat(written.length() - size));
        return written.substring(0, size);
    }

    /** What is fed, as its beginnings show when they are read. */
    private String fed() {
        int fed = number(twin -> twin.count(2));
        StringBuilder seen = new StringBuilder("\nfed " + fed + ":");
        for (int n = 0; n <= Math.min(fed, 40); n++) {
            seen.append(beginning(n));
        }
        if (fed > 40) {
            seen.append(beginning(Math.min(fed, 8192)));
        }
        return seen.toString();
    }

    private String beginning(int n) {
        Run read = then(twin -> twin.read(1, n));
        return " " + answer(twin -> twin.read(1, n)) + " " + read.answer(Counted::wrong) + read.write(1, 0).answer(twin -> twin.count(3));
    }
}
