import java.util.Map;
import java.util.Random;
import java.util.TreeMap;

/**
 * Runs of calls, drawn from fixed seeds, whose every answer is compared with the model's. A run has
 * at most 512 calls, as the document has it: at its end the whole state is looked at once.
 */
final class ModelTest {
    private static final int RUNS = 3000;
    private static final int CALLS = 320;
    private static final String[] NAMES = {
        "open", "fare", "part", "buy", "wish", "cancel", "ticket", "price", "hand", "share",
        "send", "arrive", "receipt", "lose", "crash", "rights", "air", "sold", "wishes", "till"
    };
    private static final int PART = 2;
    private static final int BUY = 3;
    private static final int WISH = 4;
    /** How often each call is drawn: a bit of everything, much selling, much waiting for rights. */
    private static final int[][] WEIGHTS = {
        {4, 4, 9, 10, 10, 5, 1, 1, 6, 5, 14, 14, 9, 1, 1, 1, 1, 1, 1, 1},
        {2, 1, 6, 60, 6, 2, 1, 1, 1, 1, 1, 1, 1, 1, 1, 1, 1, 1, 1, 1},
        {2, 2, 6, 4, 20, 2, 1, 1, 8, 4, 10, 10, 10, 1, 1, 1, 1, 1, 1, 1}
    };
    /** What has to be seen in all runs together, so that they do not test less than they seem to. */
    private static final String[] NEEDED = {
        "open index", "open argument", "open state", "fare index", "fare argument", "part index",
        "part argument", "part state", "part 4", "buy index", "buy argument", "buy state", "buy -1",
        "buy 79", "wish index", "wish argument", "wish state", "wish 0", "wish 1", "cancel index",
        "cancel state", "cancel 0", "cancel 1", "cancel 2", "cancel 3", "ticket index",
        "ticket argument", "price index", "hand index", "hand argument", "hand state", "hand -1",
        "hand 12", "share index", "share argument", "share 0", "share 2", "share 4", "send index",
        "send argument", "send 0", "send 12", "arrive index", "arrive argument", "arrive -1",
        "arrive 0", "arrive 1", "arrive 2", "arrive 3", "receipt index", "receipt argument",
        "receipt -1", "receipt 0", "receipt 1", "lose index", "lose argument", "lose 0", "lose 1",
        "lose 2", "crash index", "crash 0", "crash 1", "crash 3", "rights index", "air index",
        "sold index", "wishes index", "wishes 6", "till index"
    };

    private final Map<String, Integer> seen;
    private final Random random;
    private final IslandRights program = new IslandRights();
    private final Model model = new Model();
    private final int[] weights = new int[NAMES.length];
    private final StringBuilder told = new StringBuilder();
    private final int ports;
    private final int sailings;
    private final int mostSeats;
    private final int oddness;

    private ModelTest(int seed, Map<String, Integer> seen) {
        this.seen = seen;
        random = new Random(seed);
        int[] usual = WEIGHTS[random.nextInt(WEIGHTS.length)];
        for (int i = 0; i < weights.length; i++) {
            weights[i] = usual[i] * (1 + random.nextInt(8));
        }
        // Few ports and sailings meet more often, and small numbers give more tickets.
        ports = 1 + random.nextInt(4);
        sailings = 1 + random.nextInt(4);
        mostSeats = new int[] {1, 3, 10, 40}[random.nextInt(4)];
        oddness = new int[] {15, 60, 1000}[random.nextInt(3)];
    }

    public static void main(String[] args) {
        Map<String, Integer> seen = new TreeMap<>();
        for (int seed = 0; seed < RUNS && Check.wrongSoFar() == 0; seed++) {
            new ModelTest(seed, seen).run(seed);
        }
        for (String needed : NEEDED) {
            Check.same("seen in the runs: " + needed, seen.containsKey(needed), true);
        }
        Check.end();
    }

    private void run(int seed) {
        int calls = random.nextBoolean() ? CALLS : 1 + random.nextInt(CALLS);
        for (int i = 0; i < calls && Check.wrongSoFar() == 0; i++) {
            int which = draw();
            compare("seed " + seed, which, arguments(which));
        }
        if (Check.wrongSoFar() == 0) {
            compareState("the end of seed " + seed);
        }
        if (Check.wrongSoFar() != 0) {
            System.out.println(told);
        }
    }

    private int draw() {
        int sum = 0;
        for (int weight : weights) {
            sum += weight;
        }
        int left = random.nextInt(sum);
        int which = 0;
        while (left >= weights[which]) {
            left -= weights[which];
            which++;
        }
        boolean needsDraft = which == BUY || which == WISH;
        return needsDraft && model.draftIsEmpty() && random.nextInt(oddness) != 0 ? PART : which;
    }

    private void compare(String where, int which, int... x) {
        Object due = outcome(false, which, x);
        Object got = outcome(true, which, x);
        StringBuilder call = new StringBuilder(NAMES[which]).append('(');
        for (int i = 0; i < x.length; i++) {
            call.append(i == 0 ? "" : ", ").append(x[i]);
        }
        told.append(call).append(") due ").append(due).append('\n');
        seen.merge(NAMES[which] + " " + due, 1, Integer::sum);
        Check.same(where + ": " + call + ")", got, due);
    }

    private void compareState(String where) {
        for (int i = 0; i < 4; i++) {
            compare(where, 18, i);
            compare(where, 19, i);
            for (int leg = 0; leg < 4; leg++) {
                compare(where, 16, i, leg);
                compare(where, 17, i, leg);
                for (int port = 0; port < 4; port++) {
                    compare(where, 15, port, i, leg);
                }
            }
        }
        for (int ticket = 0; ticket < model.ticketCount(); ticket++) {
            compare(where, ticket % 5 == 4 ? 7 : 6, ticket % 5 == 4 ? new int[] {ticket}
                    : new int[] {ticket, ticket % 5});
        }
    }

    private Object outcome(boolean ofProgram, int which, int[] x) {
        try {
            return Long.valueOf(ofProgram ? ofProgram(which, x) : ofModel(which, x));
        } catch (RuntimeException e) {
            return e.getClass() == IndexOutOfBoundsException.class ? "index"
                    : e.getClass() == IllegalArgumentException.class ? "argument"
                    : e.getClass() == IllegalStateException.class ? "state" : e.toString();
        }
    }

    private int index(int limit) {
        int[] odd = {-1, limit, Integer.MIN_VALUE, Integer.MAX_VALUE};
        return random.nextInt(oddness) == 0 ? odd[random.nextInt(4)] : random.nextInt(limit);
    }

    private int port() {
        return random.nextInt(oddness) == 0 ? index(4) : random.nextInt(ports);
    }

    private int sailing() {
        return random.nextInt(oddness) == 0 ? index(4) : random.nextInt(sailings);
    }

    private int otherPort(int port) {
        int other = port();
        return other == port && random.nextInt(oddness) != 0 ? (port + 1) & 3 : other;
    }

    private int number(int most) {
        int[] odd = {0, 101, -1, 100, Integer.MIN_VALUE, Integer.MAX_VALUE};
        return random.nextInt(oddness) == 0 ? odd[random.nextInt(6)] : 1 + random.nextInt(most);
    }

    private int fareNumber() {
        int[] odd = {-1, 1_000_000_001, 0, Integer.MIN_VALUE, Integer.MAX_VALUE};
        return random.nextInt(oddness) == 0 ? odd[random.nextInt(5)]
                : random.nextBoolean() ? 1_000_000_000 - random.nextInt(5) : random.nextInt(1000);
    }

    private int ticketNumber() {
        return index(Math.max(1, model.ticketCount()));
    }

    private int[] arguments(int which) {
        int a = port();
        switch (NAMES[which]) {
            case "open":
                return new int[] {sailing(), number(100)};
            case "fare":
                return new int[] {sailing(), index(4), fareNumber()};
            case "part":
                int from = index(4);
                boolean odd = from < 0 || from > 3 || random.nextInt(oddness) == 0;
                return new int[] {sailing(), from, odd ? index(5) : from + 1 + random.nextInt(4 - from)};
            case "buy":
            case "wish":
                return new int[] {a, number(mostSeats)};
            case "cancel":
            case "price":
                return new int[] {ticketNumber()};
            case "ticket":
                return new int[] {ticketNumber(), index(4)};
            case "hand":
                return new int[] {a, otherPort(a), sailing(), index(4), number(mostSeats)};
            case "share":
                return new int[] {a, otherPort(a), sailing()};
            case "send":
            case "arrive":
            case "receipt":
            case "lose":
                return new int[] {a, otherPort(a)};
            case "rights":
                return new int[] {a, sailing(), index(4)};
            case "air":
            case "sold":
                return new int[] {sailing(), index(4)};
            default:
                return new int[] {a};
        }
    }

    private long ofProgram(int which, int[] x) {
        switch (NAMES[which]) {
            case "open":
                program.open(x[0], x[1]);
                return 0;
            case "fare":
                program.fare(x[0], x[1], x[2]);
                return 0;
            case "part":
                return program.part(x[0], x[1], x[2]);
            case "buy":
                return program.buy(x[0], x[1]);
            case "wish":
                return program.wish(x[0], x[1]);
            case "cancel":
                return program.cancel(x[0]);
            case "ticket":
                return program.ticket(x[0], x[1]);
            case "price":
                return program.price(x[0]);
            case "hand":
                return program.hand(x[0], x[1], x[2], x[3], x[4]);
            case "share":
                return program.share(x[0], x[1], x[2]);
            case "send":
                return program.send(x[0], x[1]);
            case "arrive":
                return program.arrive(x[0], x[1]);
            case "receipt":
                return program.receipt(x[0], x[1]);
            case "lose":
                return program.lose(x[0], x[1]);
            case "crash":
                return program.crash(x[0]);
            case "rights":
                return program.rights(x[0], x[1], x[2]);
            case "air":
                return program.air(x[0], x[1]);
            case "sold":
                return program.sold(x[0], x[1]);
            case "wishes":
                return program.wishes(x[0]);
            case "till":
                return program.till(x[0]);
            default:
                throw new UnsupportedOperationException(NAMES[which]);
        }
    }

    private long ofModel(int which, int[] x) {
        switch (NAMES[which]) {
            case "open":
                model.open(x[0], x[1]);
                return 0;
            case "fare":
                model.fare(x[0], x[1], x[2]);
                return 0;
            case "part":
                return model.part(x[0], x[1], x[2]);
            case "buy":
                return model.buy(x[0], x[1]);
            case "wish":
                return model.wish(x[0], x[1]);
            case "cancel":
                return model.cancel(x[0]);
            case "ticket":
                return model.ticket(x[0], x[1]);
            case "price":
                return model.price(x[0]);
            case "hand":
                return model.hand(x[0], x[1], x[2], x[3], x[4]);
            case "share":
                return model.share(x[0], x[1], x[2]);
            case "send":
                return model.send(x[0], x[1]);
            case "arrive":
                return model.arrive(x[0], x[1]);
            case "receipt":
                return model.receipt(x[0], x[1]);
            case "lose":
                return model.lose(x[0], x[1]);
            case "crash":
                return model.crash(x[0]);
            case "rights":
                return model.rights(x[0], x[1], x[2]);
            case "air":
                return model.air(x[0], x[1]);
            case "sold":
                return model.sold(x[0], x[1]);
            case "wishes":
                return model.wishes(x[0]);
            case "till":
                return model.till(x[0]);
            default:
                throw new UnsupportedOperationException(NAMES[which]);
        }
    }
}
