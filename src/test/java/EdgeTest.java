import java.util.ArrayList;
import java.util.List;

/**
 * Every call with every mix of arguments at the edges, in states where little or nothing more has a
 * place: it answers what the model answers, or throws what the model throws; what is seen after it
 * is what is seen of the model, and after a refused call what was seen before it.
 */
final class EdgeTest {
    private static final int[] PORT = {-1, 0, 1, 4};
    private static final int[] OF_FOUR = {-1, 0, 3, 4};
    private static final int[] STOP = {-1, 0, 1, 4, 5};
    private static final int[] SEATS = {-1, 0, 1, 6, 100, 101};
    private static final int[] FARE = {-1, 0, 1_000_000_000, 1_000_000_001};
    private static final int[] TICKET = {-1, 0, 1, 2, 3, 79, 80};
    /** An object has 512 calls only, so a few refused calls at a time are looked behind. */
    private static final int REFUSED_AT_ONCE = 20;

    private final String name;
    private final List<Subject.Call> setup = new ArrayList<>();

    private EdgeTest(String name, String... texts) {
        this.name = name;
        for (String line : String.join("\n", texts).split("\n")) {
            if (!line.isBlank()) {
                setup.add(Subject.Call.of(line.split(" = ")[0]));
            }
        }
    }

    public static void main(String[] args) {
        List<Subject.Call> calls = edgeCalls();
        new EdgeTest("new").run(calls);
        new EdgeTest("open", "open(0, 1)\nopen(3, 100)").run(calls);
        new EdgeTest("busy", States.BUSY).run(calls);
        new EdgeTest("six wishes", States.SIX_WISHES).run(calls);
        new EdgeTest("eight transfers", States.EIGHT_TRANSFERS).run(calls);
        new EdgeTest("79 tickets", "open(0, 100)", States.tickets(79),
                "part(0, 0, 1)\nwish(0, 22)\npart(0, 0, 1)\nwish(0, 22)\npart(0, 3, 4)").run(calls);
        new EdgeTest("full", States.FULL).run(calls);
        Check.end();
    }

    private static List<Subject.Call> edgeCalls() {
        List<Subject.Call> calls = new ArrayList<>();
        mix(calls, "open", OF_FOUR, SEATS);
        mix(calls, "fare", OF_FOUR, OF_FOUR, FARE);
        mix(calls, "part", OF_FOUR, STOP, STOP);
        mix(calls, "buy", PORT, SEATS);
        mix(calls, "wish", PORT, SEATS);
        mix(calls, "cancel", TICKET);
        mix(calls, "ticket", TICKET, OF_FOUR);
        mix(calls, "price", TICKET);
        mix(calls, "hand", PORT, PORT, OF_FOUR, OF_FOUR, SEATS);
        mix(calls, "share", PORT, PORT, OF_FOUR);
        for (String two : new String[] {"send", "arrive", "receipt", "lose"}) {
            mix(calls, two, PORT, PORT);
        }
        mix(calls, "crash", PORT);
        mix(calls, "rights", PORT, OF_FOUR, OF_FOUR);
        mix(calls, "air", OF_FOUR, OF_FOUR);
        mix(calls, "sold", OF_FOUR, OF_FOUR);
        mix(calls, "wishes", PORT);
        mix(calls, "till", PORT);
        return calls;
    }

    /** Adds the call with each mix of one value for each argument. */
    private static void mix(List<Subject.Call> calls, String method, int[]... values) {
        int mixes = 1;
        for (int[] some : values) {
            mixes *= some.length;
        }
        for (int i = 0; i < mixes; i++) {
            int[] arguments = new int[values.length];
            int left = i;
            for (int k = 0; k < values.length; k++) {
                arguments[k] = values[k][left % values[k].length];
                left /= values[k].length;
            }
            calls.add(new Subject.Call(method, arguments));
        }
    }

    private void run(List<Subject.Call> calls) {
        List<Subject.Call> refused = new ArrayList<>();
        for (Subject.Call call : calls) {
            Object due = after(Subject.of(new Model()), List.of()).answer(call);
            Object got = after(Subject.program(), List.of()).answer(call);
            Check.same(where(List.of(call)), got, due);
            if (due instanceof Long || due.equals(Subject.DONE)) {
                sameAsModel(call);
            } else {
                refused.add(call);
            }
        }
        for (int i = 0; i < refused.size(); i += REFUSED_AT_ONCE) {
            sameAsBefore(refused.subList(i, Math.min(i + REFUSED_AT_ONCE, refused.size())));
        }
    }

    private Subject after(Subject subject, List<Subject.Call> more) {
        for (Subject.Call call : setup) {
            subject.answer(call);
        }
        for (Subject.Call call : more) {
            subject.answer(call);
        }
        return subject;
    }

    private void sameAsModel(Subject.Call call) {
        List<Subject.Call> one = List.of(call);
        for (int i = 0; i < Looks.COUNT; i++) {
            String due = Looks.look(i, after(Subject.of(new Model()), one));
            String got = Looks.look(i, after(Subject.program(), one));
            Check.same("look " + i + " after " + where(one), Looks.firstDifference(due, got), "");
        }
    }

    private void sameAsBefore(List<Subject.Call> refused) {
        for (int i = 0; i < Looks.COUNT; i++) {
            String before = Looks.look(i, after(Subject.program(), List.of()));
            String then = Looks.look(i, after(Subject.program(), refused));
            Check.same("look " + i + " after " + where(refused),
                    Looks.firstDifference(before, then), "");
        }
    }

    private String where(List<Subject.Call> calls) {
        StringBuilder text = new StringBuilder(name).append(':');
        for (Subject.Call call : calls) {
            text.append(' ').append(call);
        }
        return text.toString();
    }
}
