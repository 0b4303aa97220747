import java.util.Map;
import java.util.Random;
import java.util.TreeMap;

/**
 * Runs of calls, drawn from fixed seeds, whose every answer is compared with the model's. A run has
 * at most 512 calls, as the document has it: at its end the whole state is looked at once.
 */
final class ModelTest {
    private static final int RUNS = 3000;
    private static final int CALLS = 320;
    private static final String[] NAMES = {
        "open", "fare", "part", "buy", "wish", "cancel", "ticket", "price", "hand", "share",
        "send", "arrive", "receipt", "lose", "crash", "rights", "air", "sold", "wishes", "till"
    };
    private static final int PART = 2;
    private static final int BUY = 3;
    private static final int WISH = 4;
    /** How often each call is drawn: a bit of everything, much selling, much waiting for rights. */
    private static final int[][] WEIGHTS = {
        {4, 4, 9, 10, 10, 5, 1, 1, 6, 5, 14, 14, 9, 1, 1, 1, 1, 1, 1, 1},
        {2, 1, 6, 60, 6, 2, 1, 1, 1, 1, 1, 1, 1, 1, 1, 1, 1, 1, 1, 1},
        {2, 2, 6, 4, 20, 2, 1, 1, 8, 4, 10, 10, 10, 1, 1, 1, 1, 1, 1, 1}
    };
    /** What has to be seen in all runs together, so that they do not test less than they seem to. */
    private static final String[] NEEDED = {
        "open IndexOutOfBounds", "open IllegalArgument", "open IllegalState",
        "fare IndexOutOfBounds", "fare IllegalArgument", "part IndexOutOfBounds",
        "part IllegalArgument", "part IllegalState", "part 4", "buy IndexOutOfBounds",
        "buy IllegalArgument", "buy IllegalState", "buy -1", "buy 79", "wish IndexOutOfBounds",
        "wish IllegalArgument", "wish IllegalState", "wish 0", "wish 1", "cancel IndexOutOfBounds",
        "cancel IllegalState", "cancel 0", "cancel 1", "cancel 2", "cancel 3",
        "ticket IndexOutOfBounds", "ticket IllegalArgument", "price IndexOutOfBounds",
        "hand IndexOutOfBounds", "hand IllegalArgument", "hand IllegalState", "hand -1", "hand 12",
        "share IndexOutOfBounds", "share IllegalArgument", "share 0", "share 2", "share 4",
        "send IndexOutOfBounds", "send IllegalArgument", "send 0", "send 12",
        "arrive IndexOutOfBounds", "arrive IllegalArgument", "arrive -1", "arrive 0", "arrive 1",
        "arrive 2", "arrive 3", "receipt IndexOutOfBounds", "receipt IllegalArgument", "receipt -1",
        "receipt 0", "receipt 1", "lose IndexOutOfBounds", "lose IllegalArgument", "lose 0",
        "lose 1", "lose 2", "crash IndexOutOfBounds", "crash 0", "crash 1", "crash 3",
        "rights IndexOutOfBounds", "air IndexOutOfBounds", "sold IndexOutOfBounds",
        "wishes IndexOutOfBounds", "wishes 6", "till IndexOutOfBounds"
    };

    private final Map<String, Integer> seen;
    private final Random random;
    private final Subject program = Subject.program();
    private final Model history = new Model();
    private final Subject model = Subject.of(history);
    private final int[] weights = new int[NAMES.length];
    private final StringBuilder told = new StringBuilder();
    private final int ports;
    private final int sailings;
    private final int mostSeats;
    private final int oddness;

    private ModelTest(int seed, Map<String, Integer> seen) {
        this.seen = seen;
        random = new Random(seed);
        int[] usual = WEIGHTS[random.nextInt(WEIGHTS.length)];
        for (int i = 0; i < weights.length; i++) {
            weights[i] = usual[i] * (1 + random.nextInt(8));
        }
        // Few ports and sailings meet more often, and small numbers give more tickets.
        ports = 1 + random.nextInt(4);
        sailings = 1 + random.nextInt(4);
        mostSeats = new int[] {1, 3, 10, 40}[random.nextInt(4)];
        oddness = new int[] {15, 60, 1000}[random.nextInt(3)];
    }

    public static void main(String[] args) {
        Map<String, Integer> seen = new TreeMap<>();
        for (int seed = 0; seed < RUNS && Check.wrongSoFar() == 0; seed++) {
            new ModelTest(seed, seen).run(seed);
        }
        for (String needed : NEEDED) {
            Check.same("seen in the runs: " + needed, seen.containsKey(needed), true);
        }
        Check.end();
    }

    private void run(int seed) {
        int calls = random.nextBoolean() ? CALLS : 1 + random.nextInt(CALLS);
        for (int i = 0; i < calls && Check.wrongSoFar() == 0; i++) {
            String name = NAMES[draw()];
            compare("seed " + seed, name, arguments(name));
        }
        if (Check.wrongSoFar() == 0) {
            compareState("the end of seed " + seed);
        }
        if (Check.wrongSoFar() != 0) {
            System.out.println(told);
        }
    }

    private int draw() {
        int sum = 0;
        for (int weight : weights) {
            sum += weight;
        }
        int left = random.nextInt(sum);
        int which = 0;
        while (left >= weights[which]) {
            left -= weights[which];
            which++;
        }
        boolean needsDraft = which == BUY || which == WISH;
        return needsDraft && history.draftIsEmpty() && random.nextInt(oddness) != 0 ? PART : which;
    }

    private void compare(String where, String name, int... x) {
        Object due = model.answer(name, x);
        Object got = program.answer(name, x);
        String call = Subject.text(name, x);
        told.append(call).append(" due ").append(due).append('\n');
        seen.merge(name + " " + due, 1, Integer::sum);
        Check.same(where + ": " + call, got, due);
    }

    private void compareState(String where) {
        for (int i = 0; i < 4; i++) {
            compare(where, "wishes", i);
            compare(where, "till", i);
            for (int leg = 0; leg < 4; leg++) {
                compare(where, "air", i, leg);
                compare(where, "sold", i, leg);
                for (int port = 0; port < 4; port++) {
                    compare(where, "rights", port, i, leg);
                }
            }
        }
        for (int ticket = 0; ticket < history.ticketCount(); ticket++) {
            if (ticket % 5 == 4) {
                compare(where, "price", ticket);
            } else {
                compare(where, "ticket", ticket, ticket % 5);
            }
        }
    }

    private int index(int limit) {
        int[] odd = {-1, limit, Integer.MIN_VALUE, Integer.MAX_VALUE};
        return random.nextInt(oddness) == 0 ? odd[random.nextInt(4)] : random.nextInt(limit);
    }

    private int port() {
        return random.nextInt(oddness) == 0 ? index(4) : random.nextInt(ports);
    }

    private int sailing() {
        return random.nextInt(oddness) == 0 ? index(4) : random.nextInt(sailings);
    }

    private int otherPort(int port) {
        int other = port();
        return other == port && random.nextInt(oddness) != 0 ? (port + 1) & 3 : other;
    }

    private int number(int most) {
        int[] odd = {0, 101, -1, 100, Integer.MIN_VALUE, Integer.MAX_VALUE};
        return random.nextInt(oddness) == 0 ? odd[random.nextInt(6)] : 1 + random.nextInt(most);
    }

    private int fareNumber() {
        int[] odd = {-1, 1_000_000_001, 0, Integer.MIN_VALUE, Integer.MAX_VALUE};
        return random.nextInt(oddness) == 0 ? odd[random.nextInt(5)]
                : random.nextBoolean() ? 1_000_000_000 - random.nextInt(5) : random.nextInt(1000);
    }

    private int ticketNumber() {
        return index(Math.max(1, history.ticketCount()));
    }

    private int[] arguments(String name) {
        int a = port();
        switch (name) {
            case "open":
                return new int[] {sailing(), number(100)};
            case "fare":
                return new int[] {sailing(), index(4), fareNumber()};
            case "part":
                int from = index(4);
                boolean odd = from < 0 || from > 3 || random.nextInt(oddness) == 0;
                return new int[] {sailing(), from, odd ? index(5) : from + 1 + random.nextInt(4 - from)};
            case "buy":
            case "wish":
                return new int[] {a, number(mostSeats)};
            case "cancel":
            case "price":
                return new int[] {ticketNumber()};
            case "ticket":
                return new int[] {ticketNumber(), index(4)};
            case "hand":
                return new int[] {a, otherPort(a), sailing(), index(4), number(mostSeats)};
            case "share":
                return new int[] {a, otherPort(a), sailing()};
            case "send":
            case "arrive":
            case "receipt":
            case "lose":
                return new int[] {a, otherPort(a)};
            case "rights":
                return new int[] {a, sailing(), index(4)};
            case "air":
            case "sold":
                return new int[] {sailing(), index(4)};
            default:
                return new int[] {a};
        }
    }
}
