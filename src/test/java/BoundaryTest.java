/**
 * Each sentence of the promises 1 to 21 that names a boundary case: the last input that is accepted
 * and the first that is refused on either side, which exception wins where two hold at once, and
 * what is answered where there is nothing, too little or no more place. "Terms" is TermsTest's.
 */
final class BoundaryTest {
    private static final int MIN = Integer.MIN_VALUE;
    private static final int MAX = Integer.MAX_VALUE;
    private static final int[] NOT_OF_FOUR = {-1, 4, MIN, MAX};
    private static final int[] NOT_OF_FIVE = {-1, 5, MIN, MAX};
    private static final int[] NOT_1_TO_100 = {0, 101, -1, MIN, MAX};

    public static void main(String[] args) {
        newObject();
        open();
        openWins();
        fare();
        fareFromNowOn();
        part();
        partWins();
        buy();
        buyDoesNotFit();
        buyWins();
        wish();
        wishWins();
        wishTickets();
        cancel();
        cancelServes();
        ticket();
        price();
        hand();
        handHasLess();
        handWins();
        shareHalves();
        shareWithLittlePlace();
        shareWins();
        send();
        arrive();
        arriveTickets();
        receipt();
        lose();
        crash();
        rights();
        air();
        sold();
        wishes();
        till();
        Check.end();
    }

    private static void newObject() {
        String sentence = "1: no sailing is open";
        for (int sailing = 0; sailing < 4; sailing++) {
            Script.run(sentence, "part(" + sailing + ", 0, 4) throws IllegalState");
            Script.run(sentence, "share(0, 1, " + sailing + ") = 0, nothing happens");
            Script.run(sentence, "hand(0, 1, " + sailing + ", 0, 1) = -1, nothing happens");
            Script.run(sentence, "rights(0, " + sailing + ", 0) = 0, nothing happens");
        }
        Script.run("1: no tickets", "cancel(0) throws IndexOutOfBounds",
                "ticket(0, 3) throws IndexOutOfBounds", "price(0) throws IndexOutOfBounds");
        Script.run("1: no wishes", "wishes(0) = 0, nothing happens", "wishes(3) = 0");
        Script.run("1: no transfers", """
                send(0, 1) = 0, nothing happens
                arrive(0, 1) = -1, nothing happens
                receipt(0, 1) = -1, nothing happens
                lose(0, 1) = 0, nothing happens
                crash(0) = 0, nothing happens
                air(0, 0) = 0
                """);
        Script.run("1: the draft is empty", "buy(0, 1) throws IllegalState",
                "wish(0, 1) throws IllegalState");
    }

    private static void open() {
        Script.run("2: seats are 1 .. 100", """
                open(0, 1)
                open(1, 2)
                open(2, 99)
                open(3, 100)
                rights(0, 0, 0) = 1
                rights(0, 1, 1) = 2
                rights(0, 2, 2) = 99
                rights(0, 3, 3) = 100
                """);
        Script.each("2: port 0 has all rights", new int[] {0, 1, 2, 3}, "open(2, 100)", """
                rights(0, 2, #) = 100
                rights(1, 2, #) = 0
                rights(2, 2, #) = 0
                rights(3, 2, #) = 0
                rights(0, 1, #) = 0
                rights(0, 3, #) = 0
                """);
        String sentence = "2: IllegalArgument: seats are not 1 .. 100";
        Script.each(sentence, NOT_1_TO_100, "", "open(0, #) throws IllegalArgument\nopen(0, 1)");
        Script.each(sentence, NOT_1_TO_100, States.BUSY, "open(3, #) throws IllegalArgument");
        Script.run("2: IllegalState: it was open", "open(0, 5)", """
                open(0, 5) throws IllegalState
                open(0, 1) throws IllegalState
                open(0, 100) throws IllegalState
                part(0, 0, 4)
                buy(0, 5) = 0
                open(0, 5) throws IllegalState
                """);
    }

    private static void openWins() {
        for (int no : NOT_OF_FOUR) {
            Script.each("2: IndexOutOfBounds wins over IllegalArgument", NOT_1_TO_100, States.BUSY,
                    "open(" + no + ", #) throws IndexOutOfBounds");
        }
        Script.each("2: IllegalArgument wins over IllegalState", NOT_1_TO_100, States.BUSY,
                "open(0, #) throws IllegalArgument");
    }

    private static void fare() {
        Script.run("3: it is 0 .. 1,000,000,000", """
                open(0, 1)
                fare(0, 0, 1000000000)
                fare(0, 1, 999999999)
                fare(0, 2, 1)
                fare(0, 3, 7)
                fare(0, 3, 0)
                part(0, 0, 4)
                buy(0, 1) = 0
                price(0) = 2000000000
                """);
        int[] wrong = {-1, 1_000_000_001, MIN, MAX};
        Script.each("3: IllegalArgument: it is not 0 .. 1,000,000,000", wrong, States.BUSY,
                "fare(0, 0, #) throws IllegalArgument\nfare(3, 3, #) throws IllegalArgument");
        for (int no : NOT_OF_FOUR) {
            Script.each("3: IndexOutOfBounds wins over IllegalArgument", wrong, States.BUSY,
                    "fare(" + no + ", 0, #) throws IndexOutOfBounds\nfare(0, " + no
                    + ", #) throws IndexOutOfBounds");
        }
    }

    private static void fareFromNowOn() {
        Script.run("3: of a sailing that is not open, too", """
                fare(3, 2, 11)
                open(3, 2)
                part(3, 0, 4)
                buy(0, 2) = 0
                price(0) = 22
                """);
        Script.run("3: from now on", """
                open(0, 9)
                fare(0, 0, 5)
                part(0, 0, 1)
                buy(0, 1) = 0
                part(0, 0, 1)
                fare(0, 0, 6)
                buy(0, 1) = 1
                price(0) = 5
                price(1) = 6
                till(0) = 11
                """);
    }

    private static void part() {
        Script.run("4: how many it has", "open(0, 9)\nopen(3, 9)", """
                part(0, 0, 1) = 1
                part(3, 3, 4) = 2
                part(0, 0, 4) = 3
                part(3, 0, 4) = 4
                part(0, 0, 1) throws IllegalState
                buy(0, 1) = 0
                part(3, 0, 1) = 1
                """);
        Script.run("4: IllegalArgument: from is not below to", States.BUSY, """
                part(0, 0, 0) throws IllegalArgument
                part(0, 1, 0) throws IllegalArgument
                part(0, 4, 4) throws IllegalArgument
                part(0, 4, 3) throws IllegalArgument
                part(0, 4, 0) throws IllegalArgument
                part(0, 3, 4) = 3
                part(0, 0, 1) = 4
                """);
        Script.run("4: IllegalState: the sailing is not open", States.BUSY, """
                part(2, 0, 1) throws IllegalState
                part(3, 0, 4) throws IllegalState
                open(3, 1)
                part(3, 0, 4) = 3
                part(2, 0, 4) throws IllegalState
                """);
        Script.run("4: IllegalState: there are 4", States.FULL, """
                part(0, 0, 1) throws IllegalState
                part(1, 3, 4) throws IllegalState
                wish(0, 1) = 0
                part(1, 3, 4) = 1
                """);
    }

    private static void partWins() {
        String sentence = "4: IndexOutOfBounds wins over IllegalArgument";
        Script.each(sentence, NOT_OF_FOUR, States.BUSY, """
                part(#, 1, 1) throws IndexOutOfBounds
                part(#, 4, 0) throws IndexOutOfBounds
                """);
        Script.each(sentence, NOT_OF_FIVE, States.BUSY, """
                part(0, #, 0) throws IndexOutOfBounds
                part(0, #, 4) throws IndexOutOfBounds
                part(0, 0, #) throws IndexOutOfBounds
                part(0, 4, #) throws IndexOutOfBounds
                part(0, #, #) throws IndexOutOfBounds
                """);
        sentence = "4: IndexOutOfBounds wins over IllegalState";
        Script.each(sentence, NOT_OF_FIVE, States.FULL, """
                part(0, #, 4) throws IndexOutOfBounds
                part(0, 0, #) throws IndexOutOfBounds
                part(3, #, 4) throws IndexOutOfBounds
                part(3, 0, #) throws IndexOutOfBounds
                part(3, #, #) throws IndexOutOfBounds
                """);
        Script.each(sentence, NOT_OF_FOUR, States.FULL, """
                part(#, 0, 4) throws IndexOutOfBounds
                part(#, 2, 2) throws IndexOutOfBounds
                """);
        Script.run("4: IllegalArgument wins over IllegalState", States.FULL, """
                part(0, 1, 1) throws IllegalArgument
                part(0, 4, 0) throws IllegalArgument
                part(3, 1, 1) throws IllegalArgument
                part(3, 4, 3) throws IllegalArgument
                """);
        Script.run("4: IllegalArgument wins over IllegalState", States.BUSY, """
                part(2, 4, 4) throws IllegalArgument
                part(3, 1, 0) throws IllegalArgument
                """);
    }

    private static void buy() {
        Script.run("5: n is 1 .. 100", "open(0, 100)", """
                part(0, 0, 1)
                buy(0, 1) = 0
                part(0, 1, 2)
                buy(0, 100) = 1
                ticket(0, 1) = 1
                ticket(1, 1) = 100
                """);
        Script.each("5: IllegalArgument: n is not 1 .. 100", NOT_1_TO_100, States.BUSY,
                "buy(0, #) throws IllegalArgument\nbuy(3, #) throws IllegalArgument\nbuy(0, 1) = 3");
        Script.run("5: IllegalState: the draft is empty", "open(0, 100)", """
                buy(0, 1) throws IllegalState
                buy(3, 100) throws IllegalState
                part(0, 0, 1)
                buy(0, 1) = 0
                buy(0, 1) throws IllegalState
                """);
        Script.run("5: IllegalState: there are 80 tickets", "open(0, 100)", States.tickets(79), """
                part(0, 1, 2)
                buy(1, 1) = -1
                part(0, 1, 2)
                buy(0, 1) = 79
                part(0, 1, 2)
                buy(0, 1) throws IllegalState
                buy(0, 100) throws IllegalState
                buy(1, 1) throws IllegalState
                part(0, 2, 3) = 2
                """);
        Script.run("5: IllegalState: 80 tickets came of wishes, too", "open(0, 100)",
                "part(0, 0, 1)\nwish(0, 1) = 1\n".repeat(80),
                "part(0, 1, 2)\nbuy(0, 1) throws IllegalState");
    }

    private static void buyDoesNotFit() {
        Script.run("5: NONE if it does not fit; the draft is empty then", "open(0, 10)", """
                part(0, 0, 4)
                buy(0, 11) = -1
                buy(0, 1) throws IllegalState
                rights(0, 0, 0) = 10
                sold(0, 0) = 0
                part(0, 0, 4) = 1
                buy(0, 10) = 0
                buy(0, 1) throws IllegalState
                part(0, 0, 4) = 1
                buy(0, 1) = -1
                part(0, 3, 4) = 1
                """);
        Script.run("5: it does not wait", "open(0, 10)", """
                part(0, 0, 1)
                buy(0, 10) = 0
                part(0, 0, 1)
                buy(0, 1) = -1
                wishes(0) = 0
                cancel(0) = 0
                """);
    }

    private static void buyWins() {
        for (int no : NOT_OF_FOUR) {
            Script.each("5: IndexOutOfBounds wins over both", NOT_1_TO_100, "open(0, 1)",
                    "buy(" + no + ", #) throws IndexOutOfBounds");
            Script.each("5: IndexOutOfBounds wins over IllegalArgument", NOT_1_TO_100, States.BUSY,
                    "buy(" + no + ", #) throws IndexOutOfBounds");
        }
        Script.each("5: IndexOutOfBounds wins over IllegalState", NOT_OF_FOUR, "open(0, 1)",
                "buy(#, 1) throws IndexOutOfBounds");
        Script.each("5: IndexOutOfBounds wins over IllegalState", NOT_OF_FOUR, States.FULL,
                "buy(#, 1) throws IndexOutOfBounds");
        Script.each("5: IllegalArgument wins over IllegalState", NOT_1_TO_100, "open(0, 1)",
                "buy(0, #) throws IllegalArgument");
        Script.each("5: IllegalArgument wins over IllegalState", NOT_1_TO_100, States.FULL,
                "buy(0, #) throws IllegalArgument");
    }

    private static void wish() {
        Script.run("6: n is 1 .. 100", "open(0, 100)", """
                part(0, 0, 1)
                wish(0, 1) = 1
                part(0, 1, 2)
                wish(0, 100) = 1
                ticket(0, 1) = 1
                ticket(1, 1) = 100
                part(0, 2, 3)
                wish(1, 100) = 0
                wishes(1) = 1
                """);
        Script.each("6: IllegalArgument: n is not 1 .. 100", NOT_1_TO_100, States.BUSY, """
                wish(0, #) throws IllegalArgument
                wish(3, #) throws IllegalArgument
                wish(0, 1) = 1
                """);
        Script.run("6: IllegalState: the draft is empty (then)", "open(0, 9)", """
                wish(0, 1) throws IllegalState
                part(0, 0, 1)
                wish(0, 1) = 1
                wish(0, 1) throws IllegalState
                part(0, 0, 1)
                wish(0, 9) = 0
                wish(0, 9) throws IllegalState
                part(0, 0, 1) = 1
                """);
        Script.run("6: IllegalState: 6 wait", States.SIX_WISHES, """
                wishes(1) = 6
                wish(1, 2) throws IllegalState
                wish(1, 100) throws IllegalState
                wish(2, 1) = 0
                part(0, 1, 2)
                wish(0, 1) = 1
                """);
    }

    private static void wishWins() {
        for (int no : NOT_OF_FOUR) {
            Script.each("6: IndexOutOfBounds wins over both", NOT_1_TO_100, "open(0, 1)",
                    "wish(" + no + ", #) throws IndexOutOfBounds");
            Script.each("6: IndexOutOfBounds wins over IllegalArgument", NOT_1_TO_100, States.BUSY,
                    "wish(" + no + ", #) throws IndexOutOfBounds");
        }
        Script.each("6: IndexOutOfBounds wins over IllegalState", NOT_OF_FOUR, "open(0, 1)",
                "wish(#, 1) throws IndexOutOfBounds");
        Script.each("6: IllegalArgument wins over IllegalState", NOT_1_TO_100, "open(0, 1)",
                "wish(0, #) throws IllegalArgument\nwish(1, #) throws IllegalArgument");
        Script.each("6: IllegalArgument wins over IllegalState", NOT_1_TO_100, States.SIX_WISHES,
                "wish(1, #) throws IllegalArgument");
        Script.run("6: IllegalState for both reasons", States.SIX_WISHES,
                "buy(2, 1) = -1\nwish(1, 1) throws IllegalState");
    }

    private static void wishTickets() {
        Script.run("6: how many tickets came of that", "open(0, 10)", """
                part(0, 0, 1)
                wish(0, 11) = 0
                wishes(0) = 1
                part(0, 0, 1)
                wish(0, 10) = 1
                wishes(0) = 1
                part(0, 0, 1)
                wish(0, 1) = 0
                wishes(0) = 2
                """);
        Script.run("6: a wish may wait where there are 80 tickets", "open(0, 100)",
                States.tickets(79), """
                part(0, 1, 2)
                wish(0, 1) = 1
                part(0, 1, 2)
                wish(0, 1) = 0
                wishes(0) = 1
                rights(0, 0, 1) = 99
                """);
    }

    private static void cancel() {
        Script.run("7: IndexOutOfBounds", States.BUSY, """
                cancel(-1) throws IndexOutOfBounds
                cancel(3) throws IndexOutOfBounds
                cancel(2) = 0
                """);
        Script.run("7: IllegalState: it was cancelled", States.BUSY, """
                cancel(0) throws IllegalState
                cancel(2) = 0
                cancel(2) throws IllegalState
                cancel(0) throws IllegalState
                """);
        Script.run("7: a cancelled ticket's rights can be sold again, it stays cancelled", """
                open(0, 5)
                part(0, 0, 1)
                buy(0, 5) = 0
                cancel(0) = 0
                part(0, 0, 1)
                buy(0, 5) = 1
                cancel(0) throws IllegalState
                cancel(1) = 0
                rights(0, 0, 0) = 5
                """);
        Script.run("7: the last of 80", States.FULL, """
                cancel(79) = 0
                cancel(80) throws IndexOutOfBounds
                cancel(79) throws IllegalState
                rights(0, 0, 0) = 21
                """);
    }

    private static void cancelServes() {
        String wishes = "part(0, 0, 1)\nwish(0, 2) = 0\n";
        Script.run("7: how many tickets came of that, 6 at most", "open(0, 12)", """
                part(0, 0, 1)
                buy(0, 12) = 0
                """, wishes.repeat(6), """
                cancel(0) = 6
                wishes(0) = 0
                rights(0, 0, 0) = 0
                ticket(6, 3) = 1
                ticket(7, 3) throws IndexOutOfBounds
                """);
        Script.run("7: one right too few for the last", "open(0, 12)", """
                part(0, 0, 1)
                buy(0, 11) = 0
                part(0, 0, 1)
                buy(0, 1) = 1
                """, wishes.repeat(6), """
                cancel(0) = 5
                wishes(0) = 1
                cancel(1) = 1
                wishes(0) = 0
                """);
    }

    private static void ticket() {
        Script.run("8: what is 0 .. 3", States.BUSY, """
                ticket(2, 0) = 1, nothing happens
                ticket(2, 1) = 5, nothing happens
                ticket(2, 2) = 1, nothing happens
                ticket(2, 3) = 1, nothing happens
                ticket(1, 2) = 2
                ticket(0, 0) = 0
                ticket(0, 1) = 40
                ticket(0, 2) = 1
                ticket(0, 3) = 0
                """);
        Script.each("8: IllegalArgument: what is not 0 .. 3", NOT_OF_FOUR, States.BUSY,
                "ticket(0, #) throws IllegalArgument\nticket(2, #) throws IllegalArgument");
        for (int no : new int[] {-1, 3, MIN, MAX}) {
            Script.each("8: IndexOutOfBounds wins over IllegalArgument", NOT_OF_FOUR, States.BUSY,
                    "ticket(" + no + ", #) throws IndexOutOfBounds");
        }
    }

    private static void price() {
        Script.run("9: its price (also when it was cancelled)", States.BUSY, """
                price(0) = 280, nothing happens
                price(1) = 6000000072, nothing happens
                price(2) = 35
                cancel(1) = 1
                price(1) = 6000000072
                price(3) = 5
                price(4) throws IndexOutOfBounds
                price(-1) throws IndexOutOfBounds
                """);
        StringBuilder lines = new StringBuilder();
        for (int sailing = 0; sailing < 4; sailing++) {
            lines.append("open(").append(sailing).append(", 100)\n");
            for (int leg = 0; leg < 4; leg++) {
                lines.append("fare(" + sailing + ", " + leg + ", 1000000000)\n");
            }
            lines.append("part(").append(sailing).append(", 0, 4)\n");
        }
        Script.run("9: the highest price there can be", lines.toString(), """
                buy(0, 100) = 0
                price(0) = 1600000000000
                till(0) = 1600000000000
                cancel(0) = 0
                till(0) = 0
                """);
    }

    private static void hand() {
        Script.run("10: n is 1 .. 100", "open(0, 100)", """
                hand(0, 1, 0, 0, 1) = 1
                hand(0, 1, 0, 1, 100) = 2
                hand(0, 1, 0, 0, 100) = -1, nothing happens
                hand(0, 1, 0, 0, 99) = 3
                air(0, 0) = 100
                air(0, 1) = 100
                """);
        Script.each("10: IllegalArgument: n is not 1 .. 100", NOT_1_TO_100, States.BUSY,
                "hand(0, 1, 0, 0, #) throws IllegalArgument\nhand(3, 1, 3, 3, #) throws IllegalArgument");
        Script.each("10: IllegalArgument: the same port", new int[] {0, 1, 2, 3}, States.BUSY,
                "hand(#, #, 0, 0, 1) throws IllegalArgument\nhand(#, #, 0, 0, 100) throws IllegalArgument");
        Script.run("10: IllegalState: 8 wait in the outbox", "open(0, 100)",
                "hand(0, 1, 0, 0, 1)\n".repeat(7), """
                hand(0, 1, 0, 0, 93) = 8
                hand(0, 1, 0, 1, 1) throws IllegalState
                hand(0, 1, 0, 0, 1) throws IllegalState
                hand(0, 1, 3, 0, 1) throws IllegalState
                hand(0, 3, 0, 1, 1) = 1
                send(0, 1) = 1
                hand(0, 1, 0, 1, 1) throws IllegalState
                arrive(0, 1) = 0
                hand(0, 1, 0, 1, 1) throws IllegalState
                hand(1, 0, 0, 0, 1) = 1
                receipt(0, 1) = 1
                hand(0, 1, 0, 1, 1) = 9
                """);
    }

    private static void handHasLess() {
        Script.run("10: NONE if a has less", "open(0, 10)", """
                hand(0, 1, 0, 0, 11) = -1, nothing happens
                hand(0, 1, 0, 0, 10) = 1
                hand(0, 1, 0, 0, 1) = -1, nothing happens
                hand(1, 0, 0, 0, 1) = -1, nothing happens
                hand(0, 1, 1, 0, 1) = -1, nothing happens
                hand(0, 1, 0, 1, 1) = 2
                """);
        Script.run("10: seats that are sold are no rights", "open(0, 10)", """
                part(0, 0, 1)
                buy(0, 4) = 0
                hand(0, 1, 0, 0, 7) = -1, nothing happens
                hand(0, 1, 0, 0, 6) = 1
                """);
    }

    private static void handWins() {
        for (String setup : new String[] {States.BUSY, States.EIGHT_TRANSFERS}) {
            Script.each("10: IndexOutOfBounds wins over both", NOT_OF_FOUR, setup, """
                    hand(#, 1, 0, 0, 1) throws IndexOutOfBounds
                    hand(#, 1, 0, 0, 0) throws IndexOutOfBounds
                    hand(#, #, 0, 0, 1) throws IndexOutOfBounds
                    hand(0, #, 0, 0, 101) throws IndexOutOfBounds
                    hand(0, 1, #, 0, 1) throws IndexOutOfBounds
                    hand(0, 1, #, 0, 0) throws IndexOutOfBounds
                    hand(0, 0, #, 0, 1) throws IndexOutOfBounds
                    hand(0, 1, 0, #, 1) throws IndexOutOfBounds
                    hand(0, 1, 0, #, 101) throws IndexOutOfBounds
                    hand(0, 0, 0, #, 1) throws IndexOutOfBounds
                    hand(#, #, #, #, #) throws IndexOutOfBounds
                    """);
        }
        Script.each("10: IllegalArgument wins over IllegalState", NOT_1_TO_100, States.EIGHT_TRANSFERS,
                "hand(0, 1, 0, 0, #) throws IllegalArgument\nhand(0, 0, 0, 0, #) throws IllegalArgument");
        Script.run("10: IllegalState, also if a has less", States.EIGHT_TRANSFERS, """
                hand(0, 1, 0, 0, 93) throws IllegalState
                hand(0, 1, 0, 0, 92) throws IllegalState
                hand(0, 1, 2, 0, 1) throws IllegalState
                """);
    }

    private static void shareHalves() {
        // What a has more than b of the legs 0 to 3: 0, 1, 2 and 3.
        String differences = """
                open(0, 20)
                hand(0, 1, 0, 0, 10)
                send(0, 1)
                arrive(0, 1)
                receipt(0, 1)
                hand(0, 1, 0, 1, 9)
                send(0, 1)
                arrive(0, 1)
                receipt(0, 1)
                hand(0, 1, 0, 2, 9)
                send(0, 1)
                arrive(0, 1)
                receipt(0, 1)
                hand(0, 1, 0, 3, 8)
                send(0, 1)
                arrive(0, 1)
                receipt(0, 1)
                hand(0, 2, 0, 1, 1)
                hand(0, 2, 0, 3, 1)
                """;
        Script.run("11: half of what a has more than b (whole), if that is above 0", differences, """
                rights(0, 0, 1) = 10
                share(0, 1, 0) = 2
                rights(0, 0, 0) = 10
                rights(0, 0, 1) = 10
                rights(0, 0, 2) = 10
                rights(0, 0, 3) = 10
                air(0, 2) = 1
                air(0, 3) = 2
                share(0, 1, 0) = 1
                air(0, 3) = 3
                share(0, 1, 0) = 0, nothing happens
                share(1, 0, 0) = 0, nothing happens
                """);
        Script.run("11: b has more, or both have nothing", "open(0, 100)", """
                share(1, 0, 0) = 0, nothing happens
                share(1, 2, 0) = 0, nothing happens
                share(0, 1, 3) = 0, nothing happens
                """);
        Script.run("11: half of 1 and of 3", "open(0, 1)\nopen(1, 3)\nopen(2, 2)\nopen(3, 100)", """
                share(0, 1, 0) = 0, nothing happens
                share(0, 1, 1) = 4
                rights(0, 1, 3) = 2
                share(0, 2, 2) = 4
                rights(0, 2, 0) = 1
                share(0, 3, 3) = 4
                rights(0, 3, 0) = 50
                """);
    }

    private static void shareWithLittlePlace() {
        for (int waiting = 4; waiting <= 8; waiting++) {
            int made = 8 - waiting;
            StringBuilder due = new StringBuilder("share(0, 1, 0) = " + made + "\n");
            for (int leg = 0; leg < 4; leg++) {
                due.append("rights(0, 0, " + leg + ") = " + (leg < made ? 5 : 10) + "\n");
            }
            Script.run("11: if less than 8 wait in the outbox, " + waiting + " before",
                    "open(0, 10)\nopen(1, 100)",
                    "hand(0, 1, 1, 0, 1)\n".repeat(waiting), due.toString(), """
                    hand(0, 1, 1, 0, 1) throws IllegalState
                    share(0, 1, 0) = 0, nothing happens
                    share(0, 2, 0)
                    """);
        }
        Script.run("11: for each leg in turn", "open(0, 8)\nopen(1, 100)",
                "hand(0, 2, 0, 0, 8)\nhand(0, 2, 0, 1, 7)", "hand(0, 1, 1, 0, 1)\n".repeat(7), """
                share(0, 1, 0) = 1
                rights(0, 0, 2) = 4
                rights(0, 0, 3) = 8
                """);
        Script.run("11: all four have their place, with the next numbers", "open(0, 8)", """
                hand(0, 1, 0, 0, 1) = 1
                hand(0, 1, 0, 0, 1) = 2
                share(0, 1, 0) = 4
                hand(0, 1, 0, 0, 1) = 7
                hand(0, 1, 0, 0, 1) = 8
                """);
    }

    private static void shareWins() {
        Script.each("11: IndexOutOfBounds wins over IllegalArgument", NOT_OF_FOUR, States.BUSY, """
                share(#, #, 0) throws IndexOutOfBounds
                share(0, 0, #) throws IndexOutOfBounds
                share(0, 1, #) throws IndexOutOfBounds
                share(#, #, #) throws IndexOutOfBounds
                """);
        Script.each("11: IllegalArgument: the same port", new int[] {0, 1, 2, 3}, States.BUSY,
                "share(#, #, 0) throws IllegalArgument\nshare(#, #, 3) throws IllegalArgument");
        Script.run("11: IllegalArgument with a full outbox elsewhere", States.EIGHT_TRANSFERS,
                "share(0, 0, 0) throws IllegalArgument\nshare(1, 1, 0) throws IllegalArgument");
    }

    private static void send() {
        Script.run("12: 0 (and nothing happens) if none waits", States.BUSY, """
                send(0, 3) = 0, nothing happens
                send(2, 0) = 0, nothing happens
                """);
        Script.run("12: 0 if none waits, and an old word stays on its way", "open(0, 10)", """
                hand(0, 1, 0, 0, 1)
                send(0, 1) = 1
                arrive(0, 1) = 0
                send(0, 1) = 1
                receipt(0, 1) = 1
                send(0, 1) = 0, nothing happens
                arrive(0, 1) = 0
                arrive(0, 1) = -1, nothing happens
                receipt(0, 1) = 0
                """);
        Script.run("12: the first of one, and of eight", States.EIGHT_TRANSFERS, """
                send(0, 1) = 1
                send(0, 1) = 1, nothing happens
                hand(0, 2, 0, 0, 1) = 1
                send(0, 2) = 1
                """);
        Script.run("12: in the place of another one", "open(0, 10)", """
                hand(0, 1, 0, 0, 1)
                hand(0, 1, 0, 0, 2)
                send(0, 1) = 1
                arrive(0, 1) = 0
                send(0, 1) = 1
                receipt(0, 1) = 1
                send(0, 1) = 2
                lose(0, 1) = 1
                send(0, 1) = 2
                arrive(0, 1) = 0
                arrive(0, 1) = -1, nothing happens
                rights(1, 0, 0) = 3
                """);
    }

    private static void arrive() {
        Script.run("13: NONE (and nothing happens) when there is none", States.BUSY, """
                arrive(0, 3) = -1, nothing happens
                arrive(2, 0) = -1, nothing happens
                arrive(0, 2) = 1
                arrive(0, 2) = -1, nothing happens
                """);
        Script.run("13: NONE, and a receipt stays on its way", "open(0, 10)", """
                hand(0, 1, 0, 0, 1)
                send(0, 1) = 1
                arrive(0, 1) = 0
                arrive(0, 1) = -1, nothing happens
                receipt(0, 1) = 1
                arrive(0, 1) = -1, nothing happens
                receipt(0, 1) = -1, nothing happens
                """);
        Script.run("13: not NONE when a word comes again and is not taken", States.BUSY, """
                arrive(0, 1) = 0
                rights(1, 0, 0) = 12
                arrive(0, 1) = -1, nothing happens
                """);
    }

    private static void arriveTickets() {
        String wishes = "part(0, 0, 1)\nwish(1, 2) = 0\n".repeat(6);
        int[] rights = {1, 2, 3, 11, 12, 13};
        for (int n : rights) {
            int made = n / 2;
            Script.run("13: how many tickets came of that, with " + n + " rights", "open(0, 100)",
                    wishes, "hand(0, 1, 0, 0, " + n + ")\nsend(0, 1)",
                    "arrive(0, 1) = " + made, "wishes(1) = " + (6 - made),
                    "rights(1, 0, 0) = " + (n - 2 * made));
        }
    }

    private static void receipt() {
        Script.run("14: NONE when there is none", States.BUSY, """
                receipt(0, 3) = -1, nothing happens
                receipt(0, 2) = -1, nothing happens
                receipt(0, 1) = 1
                receipt(0, 1) = -1, nothing happens
                """);
        Script.run("14: how many transfers left, none where they had left", States.BUSY, """
                receipt(0, 1) = 1
                arrive(0, 1) = 0
                receipt(0, 1) = 0
                send(0, 1) = 2
                """);
        Script.run("14: a word stays on its way", States.BUSY, """
                receipt(1, 0) = 1
                lose(1, 0) = 1
                """);
    }

    private static void lose() {
        Script.run("15: how many (0 to 2)", "open(0, 10)", """
                hand(0, 1, 0, 0, 1)
                lose(0, 1) = 0, nothing happens
                send(0, 1) = 1
                lose(1, 0) = 0, nothing happens
                lose(0, 1) = 1
                lose(0, 1) = 0, nothing happens
                send(0, 1) = 1
                arrive(0, 1) = 0
                lose(1, 0) = 0, nothing happens
                lose(0, 1) = 1
                send(0, 1) = 1
                arrive(0, 1) = 0
                send(0, 1) = 1
                lose(0, 1) = 2
                lose(0, 1) = 0, nothing happens
                receipt(0, 1) = -1
                arrive(0, 1) = -1
                send(0, 1) = 1
                """);
        Script.run("15: the other ways keep theirs", States.BUSY, """
                lose(0, 1) = 2
                lose(0, 2) = 1
                lose(1, 0) = 2
                """);
    }

    private static void crash() {
        Script.run("16: how many words and receipts got lost", States.BUSY, """
                crash(3) = 0, nothing happens
                crash(2) = 1
                crash(2) = 0, nothing happens
                crash(1) = 4
                crash(0) = 0, nothing happens
                """);
        Script.run("16: from it and to it", States.BUSY, "crash(0) = 5\ncrash(1) = 0\ncrash(2) = 0");
        StringBuilder lines = new StringBuilder("open(0, 100)\n");
        for (int b = 1; b < 4; b++) {
            lines.append("hand(0, #, 0, 0, 20)\nsend(0, #)\narrive(0, #)\nreceipt(0, #)\n"
                    .replace("#", Integer.toString(b)));
        }
        for (int a = 0; a < 4; a++) {
            for (int b = 0; b < 4; b++) {
                if (a != b) {
                    lines.append("hand(A, B, 0, 0, 1)\nsend(A, B)\narrive(A, B)\nsend(A, B)\n"
                            .replace("A", Integer.toString(a)).replace("B", Integer.toString(b)));
                }
            }
        }
        Script.run("16: all that can be on their way", lines.toString(), """
                crash(2) = 12
                crash(2) = 0, nothing happens
                crash(0) = 8
                crash(3) = 4
                crash(1) = 0, nothing happens
                """);
    }

    private static void rights() {
        Script.run("17: from none to all", "rights(0, 0, 0) = 0", "open(0, 100)", """
                rights(0, 0, 0) = 100, nothing happens
                rights(3, 0, 0) = 0, nothing happens
                hand(0, 3, 0, 0, 100)
                rights(0, 0, 0) = 0
                rights(3, 0, 0) = 0
                send(0, 3)
                arrive(0, 3)
                rights(3, 0, 0) = 100
                """);
        Script.each("17: IndexOutOfBounds", NOT_OF_FOUR, States.BUSY, """
                rights(#, 3, 3) throws IndexOutOfBounds
                rights(3, #, 3) throws IndexOutOfBounds
                rights(3, 3, #) throws IndexOutOfBounds
                """);
        Script.run("17: the last of each", States.BUSY, "rights(3, 3, 3) = 0, nothing happens");
    }

    private static void air() {
        Script.run("18: from none to all, of all ports", "open(0, 100)\nopen(3, 100)", """
                air(0, 0) = 0, nothing happens
                hand(0, 1, 3, 3, 50)
                hand(0, 2, 3, 3, 50)
                air(3, 3) = 100, nothing happens
                air(0, 0) = 0
                send(0, 1)
                arrive(0, 1)
                air(3, 3) = 50
                hand(1, 0, 3, 3, 50)
                air(3, 3) = 100
                """);
        Script.each("18: IndexOutOfBounds", NOT_OF_FOUR, States.BUSY,
                "air(#, 3) throws IndexOutOfBounds\nair(3, #) throws IndexOutOfBounds");
    }

    private static void sold() {
        Script.run("19: from none to all", "open(0, 100)\nopen(3, 100)", """
                sold(3, 3) = 0, nothing happens
                part(3, 3, 4)
                part(3, 3, 4)
                buy(0, 50) = 0
                sold(3, 3) = 100, nothing happens
                sold(0, 0) = 0
                sold(3, 2) = 0
                cancel(0) = 0
                sold(3, 3) = 0
                """);
        Script.each("19: IndexOutOfBounds", NOT_OF_FOUR, States.BUSY,
                "sold(#, 3) throws IndexOutOfBounds\nsold(3, #) throws IndexOutOfBounds");
    }

    private static void wishes() {
        Script.run("20: from none to six", States.SIX_WISHES, """
                wishes(0) = 0, nothing happens
                wishes(1) = 6, nothing happens
                wishes(2) = 0
                wishes(3) = 0
                """);
        Script.each("20: IndexOutOfBounds", NOT_OF_FOUR, States.BUSY,
                "wishes(#) throws IndexOutOfBounds");
    }

    private static void till() {
        Script.run("21: what is in a port's till", States.BUSY, """
                till(0) = 6000000072, nothing happens
                till(1) = 35, nothing happens
                till(2) = 0, nothing happens
                till(3) = 0, nothing happens
                """);
        Script.each("21: IndexOutOfBounds", NOT_OF_FOUR, States.BUSY,
                "till(#) throws IndexOutOfBounds");
    }
}
