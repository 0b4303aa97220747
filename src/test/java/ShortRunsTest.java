import java.util.ArrayList;
import java.util.List;

/** Every run of so many calls out of a few, after a setup: each answer is the model's. */
final class ShortRunsTest {
    /** What is asked at the end of each run, with calls that change the state last. */
    private static final List<Subject.Call> LAST = calls("""
            rights(0, 0, 0)
            rights(1, 0, 0)
            rights(0, 0, 1)
            air(0, 0)
            sold(0, 0)
            wishes(0)
            wishes(1)
            till(0)
            till(1)
            lose(1, 0)
            lose(0, 1)
            send(1, 0)
            send(0, 1)
            arrive(0, 1)
            receipt(0, 1)
            """);

    private final List<Subject.Call> setup;
    private final List<Subject.Call> choice;
    private final Subject.Call[] run;

    private ShortRunsTest(int length, String setup, String choice) {
        this.setup = calls(setup);
        this.choice = calls(choice);
        run = new Subject.Call[length];
    }

    public static void main(String[] args) {
        oneWay();
        bothWays();
        draftAndWishes();
        wishesAndRights();
        lastTickets();
        Check.end();
    }

    private static void oneWay() {
        new ShortRunsTest(7, """
                open(0, 9)
                hand(0, 1, 0, 0, 1)
                hand(0, 1, 0, 0, 2)
                """, """
                hand(0, 1, 0, 0, 3)
                send(0, 1)
                arrive(0, 1)
                receipt(0, 1)
                lose(0, 1)
                """).allFrom(0);
    }

    private static void bothWays() {
        new ShortRunsTest(5, """
                open(0, 9)
                hand(0, 1, 0, 0, 4)
                send(0, 1)
                arrive(0, 1)
                hand(0, 1, 0, 0, 1)
                hand(1, 0, 0, 0, 1)
                hand(1, 0, 0, 0, 1)
                """, """
                send(0, 1)
                send(1, 0)
                arrive(0, 1)
                arrive(1, 0)
                receipt(0, 1)
                receipt(1, 0)
                lose(0, 1)
                crash(0)
                crash(2)
                """).allFrom(0);
    }

    private static void draftAndWishes() {
        new ShortRunsTest(6, """
                open(0, 2)
                fare(0, 0, 5)
                """, """
                part(0, 0, 1)
                part(0, 0, 2)
                wish(0, 1)
                wish(0, 2)
                buy(0, 1)
                cancel(0)
                cancel(1)
                """).allFrom(0);
    }

    private static void wishesAndRights() {
        new ShortRunsTest(5, """
                open(0, 4)
                fare(0, 0, 7)
                part(0, 0, 1)
                wish(1, 2)
                """, """
                share(0, 1, 0)
                hand(0, 1, 0, 0, 1)
                send(0, 1)
                arrive(0, 1)
                receipt(0, 1)
                part(0, 0, 1)
                wish(1, 1)
                buy(1, 1)
                cancel(0)
                """).allFrom(0);
    }

    private static void lastTickets() {
        new ShortRunsTest(4, "open(0, 100)\n" + States.tickets(78) + """
                part(0, 1, 2)
                wish(1, 1)
                part(0, 1, 2)
                wish(1, 2)
                hand(0, 1, 0, 1, 3)
                send(0, 1)
                """, """
                part(0, 1, 2)
                buy(0, 1)
                wish(0, 1)
                wish(1, 1)
                arrive(0, 1)
                cancel(0)
                cancel(78)
                """).allFrom(0);
    }

    private static List<Subject.Call> calls(String text) {
        List<Subject.Call> calls = new ArrayList<>();
        for (String line : text.split("\n")) {
            calls.add(Subject.Call.of(line.split(" = ")[0]));
        }
        return calls;
    }

    /** Makes all runs that begin with the calls chosen for the places before this one. */
    private void allFrom(int place) {
        if (place == run.length) {
            compare();
            return;
        }
        for (int i = 0; i < choice.size() && Check.wrongSoFar() == 0; i++) {
            run[place] = choice.get(i);
            allFrom(place + 1);
        }
    }

    private void compare() {
        Subject program = Subject.program();
        Subject model = Subject.of(new Model());
        StringBuilder due = new StringBuilder();
        StringBuilder got = new StringBuilder();
        for (Subject.Call call : wholeRun()) {
            due.append(model.answer(call)).append(' ');
            got.append(program.answer(call)).append(' ');
        }
        boolean same = due.compareTo(got) == 0;
        Check.same(same ? "" : wholeRun().toString(), got.toString(), due.toString());
    }

    private List<Subject.Call> wholeRun() {
        List<Subject.Call> calls = new ArrayList<>(setup);
        calls.addAll(List.of(run));
        calls.addAll(LAST);
        return calls;
    }
}
