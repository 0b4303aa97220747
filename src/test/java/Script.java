import java.util.ArrayList;
import java.util.List;

/**
 * A run of calls on a new object, a call each line, with what is due there:
 * <pre>
 *   open(0, 10)                               it throws nothing
 *   part(0, 0, 4) = 1                         the answer
 *   send(0, 1) = 0, nothing happens           the answer, and the state is the same as before
 *   part(4, 0, 1) throws IndexOutOfBounds     the exception, and the state is the same as before
 * </pre>
 */
final class Script {
    private static final String THROWS = " throws ";
    private static final String ANSWERS = " = ";
    private static final String UNCHANGED = ", nothing happens";

    private final String sentence;
    private final Subject program = Subject.program();
    private final List<Subject.Call> made = new ArrayList<>();
    /** What is seen after the calls made so far; made when it is asked for. */
    private final String[] seen = new String[Looks.COUNT];

    private Script(String sentence) {
        this.sentence = sentence;
    }

    /** Runs all lines of all texts on one object. */
    static void run(String sentence, String... texts) {
        Script script = new Script(sentence);
        for (String text : texts) {
            for (String line : text.split("\n")) {
                if (!line.isBlank()) {
                    script.line(line.trim());
                }
            }
        }
    }

    /** For each value an object of its own: the setup, then the lines with the value for each #. */
    static void each(String sentence, int[] values, String setup, String lines) {
        for (int value : values) {
            run(sentence, setup, lines.replace("#", Integer.toString(value)));
        }
    }

    private void line(String line) {
        if (line.contains(THROWS)) {
            String[] halves = line.split(THROWS);
            Subject.Call call = Subject.Call.of(halves[0]);
            same(line, program.answer(call), halves[1]);
            unchangedBy(line, call);
        } else if (line.contains(ANSWERS)) {
            String[] halves = line.replace(UNCHANGED, "").split(ANSWERS);
            Subject.Call call = Subject.Call.of(halves[0]);
            same(line, program.answer(call), Long.valueOf(halves[1]));
            if (line.endsWith(UNCHANGED)) {
                unchangedBy(line, call);
            } else {
                add(call);
            }
        } else {
            Subject.Call call = Subject.Call.of(line);
            Object answer = program.answer(call);
            same(line, answer instanceof Long ? Subject.DONE : answer, Subject.DONE);
            add(call);
        }
    }

    private void add(Subject.Call call) {
        made.add(call);
        for (int i = 0; i < Looks.COUNT; i++) {
            seen[i] = null;
        }
    }

    private void same(String line, Object got, Object due) {
        Check.same(sentence + ": " + line, got, due);
    }

    /** Compares all that can be seen after the calls made so far with what is seen after one more. */
    private void unchangedBy(String line, Subject.Call call) {
        for (int i = 0; i < Looks.COUNT; i++) {
            if (seen[i] == null) {
                seen[i] = Looks.look(i, again());
            }
            Subject other = again();
            other.answer(call);
            String after = Looks.look(i, other);
            same(line + " changes nothing", Looks.firstDifference(seen[i], after), "");
        }
    }

    private Subject again() {
        Subject other = Subject.program();
        for (Subject.Call call : made) {
            other.answer(call);
        }
        return other;
    }
}
