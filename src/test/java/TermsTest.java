/**
 * Each sentence of "Terms" (and the one before it, of 512 calls) that names a boundary case: the
 * last that is accepted and the first that is refused on either side, empty and full.
 */
final class TermsTest {
    private static final int[] OF_FOUR = {0, 1, 2, 3};
    private static final int[] NOT_OF_FOUR = {-1, 4, Integer.MIN_VALUE, Integer.MAX_VALUE};
    private static final int[] NOT_OF_FIVE = {-1, 5, Integer.MIN_VALUE, Integer.MAX_VALUE};
    private static final String[] OF_TWO_PORTS = {
        "hand(A, B, 0, 0, 1)", "share(A, B, 0)", "send(A, B)", "arrive(A, B)", "receipt(A, B)",
        "lose(A, B)"
    };

    public static void main(String[] args) {
        calls512();
        ports();
        twoPorts();
        bothPortsAreTheSame();
        sailings();
        stops();
        legs();
        legOfStops();
        fareIsZeroAtFirst();
        partOfAnOpenSailing();
        partToALaterStop();
        draftOfFourParts();
        draftIsEmptyAtFirst();
        legsInCommon();
        fitsWithJustEnough();
        fitsForEachLeg();
        fitsAtThePort();
        priceOfFaresAsTheyAreThen();
        ticketsFromZero();
        ticketsAtMost80();
        tillGrowsByThePrice();
        cancelledRightsAndPriceGoBack();
        wishesAtMostSix();
        servedInTheirOrder();
        servedEachThatFitsThen();
        servedIfThereAreNot80Tickets();
        servedWithNoWish();
        handedAtOnce();
        transferNumbers();
        transferNumbersGoRound();
        outboxAtMostEight();
        wordOrNone();
        wordOneAbove();
        wordNotOneAbove();
        receiptInAnyCase();
        receiptInThePlaceOfAnother();
        receiptLeavesTheRest();
        inTheAir();
        crashAndNothingElse();
        noSuchTicket();
        Check.end();
    }

    private static void calls512() {
        StringBuilder lines = new StringBuilder("open(0, 100)\n");
        for (int i = 1; i <= 127; i++) {
            lines.append("hand(0, 1, 0, ").append(i % 4).append(", 1) = ").append(i).append('\n');
            lines.append("send(0, 1) = ").append(i).append('\n');
            lines.append("arrive(0, 1) = 0\nreceipt(0, 1) = 1\n");
        }
        Script.run("at most 512 calls", lines.toString(), """
                hand(0, 1, 0, 0, 1) = 128
                send(0, 1) = 128
                rights(1, 0, 3) = 32
                """);
    }

    private static void ports() {
        String sentence = "PORTS are 0 .. 3";
        String[] ofOnePort = {"buy(#, 1)", "wish(#, 1)", "crash(#)", "rights(#, 0, 0)", "wishes(#)",
            "till(#)"};
        for (String call : ofOnePort) {
            Script.each(sentence, OF_FOUR, States.BUSY, call);
            Script.each(sentence, NOT_OF_FOUR, States.BUSY, call + " throws IndexOutOfBounds");
        }
        Script.run(sentence, "open(0, 10)\npart(0, 0, 1)\nwish(3, 1) = 0", """
                hand(0, 3, 0, 0, 2)
                send(0, 3) = 1
                arrive(0, 3) = 1
                rights(3, 0, 0) = 1
                wishes(3) = 0
                till(3) = 0
                crash(3) = 1
                """);
    }

    private static void twoPorts() {
        String sentence = "PORTS are 0 .. 3, two given";
        for (String call : OF_TWO_PORTS) {
            for (int a : OF_FOUR) {
                for (int b : OF_FOUR) {
                    if (a != b) {
                        Script.run(sentence, States.BUSY, with(call, a, b));
                    }
                }
            }
            for (int no : NOT_OF_FOUR) {
                Script.run(sentence, States.BUSY,
                        with(call, no, 0) + " throws IndexOutOfBounds",
                        with(call, 0, no) + " throws IndexOutOfBounds",
                        with(call, no, 3) + " throws IndexOutOfBounds",
                        with(call, 3, no) + " throws IndexOutOfBounds");
            }
        }
    }

    private static String with(String call, int a, int b) {
        return call.replace("A", Integer.toString(a)).replace("B", Integer.toString(b));
    }

    private static void bothPortsAreTheSame() {
        String sentence = "Where two ports are given, IllegalArgument: both are the same";
        for (String call : OF_TWO_PORTS) {
            for (int port : OF_FOUR) {
                Script.run(sentence, States.BUSY, with(call, port, port) + " throws IllegalArgument");
            }
            for (int no : NOT_OF_FOUR) {
                Script.run(sentence + ", but there is none such", States.BUSY,
                        with(call, no, no) + " throws IndexOutOfBounds");
            }
        }
    }

    private static void sailings() {
        String sentence = "SAILINGS 0 .. 3";
        Script.each(sentence, OF_FOUR, "", "open(#, 1)\npart(#, 0, 4) = 1\nrights(0, #, 0) = 1");
        String[] calls = {"fare(#, 0, 1)", "hand(0, 3, #, 0, 1)", "share(0, 3, #)",
            "rights(0, #, 0)", "air(#, 0)", "sold(#, 0)"};
        for (String call : calls) {
            Script.each(sentence, OF_FOUR, States.BUSY, call);
            Script.each(sentence, NOT_OF_FOUR, States.BUSY, call + " throws IndexOutOfBounds");
        }
        Script.each(sentence, NOT_OF_FOUR, States.BUSY, "open(#, 1) throws IndexOutOfBounds");
        Script.each(sentence, NOT_OF_FOUR, States.BUSY, "part(#, 0, 1) throws IndexOutOfBounds");
    }

    private static void stops() {
        String sentence = "STOPS 0 .. 4";
        for (int from = 0; from < 4; from++) {
            for (int to = from + 1; to <= 4; to++) {
                Script.run(sentence, "open(0, 1)", "part(0, " + from + ", " + to + ") = 1");
            }
        }
        Script.each(sentence, NOT_OF_FIVE, States.BUSY, "part(0, #, 4) throws IndexOutOfBounds");
        Script.each(sentence, NOT_OF_FIVE, States.BUSY, "part(0, 0, #) throws IndexOutOfBounds");
    }

    private static void legs() {
        String sentence = "LEGS 0 .. 3";
        String[] calls = {"fare(0, #, 1)", "hand(0, 3, 0, #, 1)", "rights(0, 0, #)", "air(0, #)",
            "sold(0, #)"};
        for (String call : calls) {
            Script.each(sentence, OF_FOUR, States.BUSY, call);
            Script.each(sentence, NOT_OF_FOUR, States.BUSY, call + " throws IndexOutOfBounds");
        }
    }

    private static void legOfStops() {
        for (int k = 0; k < 4; k++) {
            StringBuilder due = new StringBuilder("buy(0, 2) = 0\n");
            for (int leg = 0; leg < 4; leg++) {
                due.append("sold(0, ").append(leg).append(") = ").append(leg == k ? 2 : 0).append('\n');
            }
            Script.run("leg k from stop k to stop k + 1", "open(0, 3)",
                    "part(0, " + k + ", " + (k + 1) + ") = 1", due.toString());
        }
        Script.run("all legs between them", "open(0, 3)\npart(0, 1, 3)\nbuy(0, 2) = 0", """
                sold(0, 0) = 0
                sold(0, 1) = 2
                sold(0, 2) = 2
                sold(0, 3) = 0
                """);
    }

    private static void fareIsZeroAtFirst() {
        Script.run("a FARE for each leg, 0 at first", """
                open(0, 1)
                open(1, 1)
                open(2, 1)
                open(3, 1)
                part(0, 0, 4)
                part(1, 0, 4)
                part(2, 0, 4)
                part(3, 0, 4)
                buy(0, 1) = 0
                price(0) = 0
                till(0) = 0
                """);
    }

    private static void partOfAnOpenSailing() {
        String sentence = "A PART is a sailing, that is open";
        Script.run(sentence, """
                part(0, 0, 1) throws IllegalState
                open(1, 100)
                part(0, 0, 1) throws IllegalState
                part(1, 0, 1) = 1
                open(0, 1)
                part(0, 0, 1) = 2
                """);
    }

    private static void partToALaterStop() {
        String sentence = "a stop from which, and a later one";
        for (int from = 0; from <= 4; from++) {
            for (int to = 0; to <= from; to++) {
                Script.run(sentence, States.BUSY,
                        "part(0, " + from + ", " + to + ") throws IllegalArgument");
            }
        }
    }

    private static void draftOfFourParts() {
        Script.run("The DRAFT is a row of at most 4 parts", "open(0, 4)\nopen(1, 4)", """
                part(0, 0, 1) = 1
                part(1, 0, 4) = 2
                part(0, 1, 2) = 3
                part(0, 2, 3) = 4
                part(0, 3, 4) throws IllegalState
                part(1, 0, 1) throws IllegalState
                buy(0, 4) = 0
                ticket(0, 2) = 4
                sold(0, 3) = 0
                part(0, 3, 4) = 1
                """);
    }

    private static void draftIsEmptyAtFirst() {
        Script.run("The DRAFT is empty at first", """
                buy(0, 1) throws IllegalState
                wish(0, 1) throws IllegalState
                open(0, 1)
                buy(0, 1) throws IllegalState
                wish(0, 1) throws IllegalState
                part(0, 0, 1) = 1
                """);
    }

    private static void legsInCommon() {
        Script.run("two parts of it may have legs in common", "open(0, 8)", """
                part(0, 0, 4) = 1
                part(0, 0, 4) = 2
                part(0, 2, 4) = 3
                part(0, 3, 4) = 4
                buy(0, 2) = 0
                rights(0, 0, 0) = 4
                rights(0, 0, 1) = 4
                rights(0, 0, 2) = 2
                rights(0, 0, 3) = 0
                """);
    }

    private static void fitsWithJustEnough() {
        for (int parts = 1; parts <= 4; parts++) {
            String draft = "part(0, 1, 2)\n".repeat(parts);
            Script.run("FITS: at least n rights for every part, " + parts + " of them",
                    "open(0, " + parts * 6 + ")",
                    draft, "buy(0, 7) = -1",
                    draft, "buy(0, 6) = 0\nrights(0, 0, 1) = 0",
                    draft, "buy(0, 1) = -1");
            Script.run("FITS: one right too few, " + parts + " parts", "open(0, 100)",
                    "hand(0, 1, 0, 1, " + (100 - parts * 6 + 1) + ") = 1",
                    draft, "buy(0, 6) = -1",
                    draft, "wish(0, 6) = 0",
                    draft, "buy(0, 5) = 0");
        }
    }

    private static void fitsForEachLeg() {
        String sentence = "FITS: for each leg of each sailing";
        for (int sailing = 0; sailing < 4; sailing++) {
            for (int leg = 0; leg < 4; leg++) {
                Script.run(sentence, """
                        open(0, 10)
                        open(1, 10)
                        open(2, 10)
                        open(3, 10)
                        """, "hand(0, 1, " + sailing + ", " + leg + ", 1) = 1", """
                        part(0, 0, 4)
                        part(1, 0, 4)
                        part(2, 0, 4)
                        part(3, 0, 4)
                        buy(0, 10) = -1
                        part(0, 0, 4)
                        part(1, 0, 4)
                        part(2, 0, 4)
                        part(3, 0, 4)
                        buy(0, 9) = 0
                        """);
            }
        }
    }

    private static void fitsAtThePort() {
        Script.run("FITS at a port: the rights of others, and those in the air, do not count", """
                open(0, 10)
                hand(0, 1, 0, 0, 5)
                part(0, 0, 1)
                buy(0, 6) = -1
                part(0, 0, 1)
                buy(1, 1) = -1
                send(0, 1)
                arrive(0, 1) = 0
                part(0, 0, 1)
                buy(0, 6) = -1
                part(0, 0, 1)
                buy(1, 6) = -1
                part(0, 0, 1)
                buy(1, 5) = 0
                part(0, 0, 1)
                buy(0, 5) = 1
                """);
    }

    private static void priceOfFaresAsTheyAreThen() {
        Script.run("PRICE: the fares as they are then, at the sale", """
                open(0, 10)
                fare(0, 0, 1)
                part(0, 0, 1)
                fare(0, 0, 2)
                buy(0, 10) = 0
                fare(0, 0, 3)
                price(0) = 20
                part(0, 0, 1)
                wish(0, 10) = 0
                fare(0, 0, 4)
                cancel(0) = 1
                fare(0, 0, 5)
                price(0) = 20
                price(1) = 40
                till(0) = 40
                cancel(1) = 0
                till(0) = 0
                """);
    }

    private static void ticketsFromZero() {
        Script.run("Tickets are numbered from 0 on", """
                open(0, 3)
                ticket(0, 0) throws IndexOutOfBounds
                part(0, 0, 1)
                buy(0, 4) = -1
                ticket(0, 0) throws IndexOutOfBounds
                part(0, 0, 1)
                buy(0, 1) = 0
                ticket(0, 1) = 1
                part(0, 0, 1)
                wish(0, 2) = 1
                ticket(1, 1) = 2
                cancel(0) = 0
                part(0, 0, 1)
                buy(0, 1) = 2
                ticket(3, 0) throws IndexOutOfBounds
                """);
    }

    private static void ticketsAtMost80() {
        Script.run("Tickets, at most 80", "open(0, 100)", States.tickets(79), """
                part(0, 1, 2)
                buy(0, 100) = 79
                part(0, 2, 3)
                buy(0, 1) throws IllegalState
                cancel(0) = 0
                buy(0, 1) throws IllegalState
                ticket(79, 1) = 100
                ticket(80, 1) throws IndexOutOfBounds
                """);
    }

    private static void tillGrowsByThePrice() {
        Script.run("the port's TILL grows by the price", """
                open(0, 10)
                fare(0, 0, 1000000000)
                part(0, 0, 1)
                buy(0, 11) = -1
                till(0) = 0
                part(0, 0, 1)
                buy(0, 3) = 0
                till(0) = 3000000000
                part(0, 1, 2)
                buy(0, 3) = 1
                till(0) = 3000000000
                part(0, 0, 1)
                wish(0, 7) = 1
                till(0) = 10000000000
                till(1) = 0
                """);
    }

    private static void cancelledRightsAndPriceGoBack() {
        Script.run("CANCELLED: its rights go back to its port, its price out of its till", """
                open(0, 10)
                fare(0, 1, 50)
                hand(0, 2, 0, 1, 6)
                send(0, 2)
                arrive(0, 2)
                part(0, 1, 2)
                part(0, 1, 2)
                buy(2, 3) = 0
                till(2) = 300
                fare(0, 1, 1)
                cancel(0) = 0
                till(2) = 0
                till(0) = 0
                rights(2, 0, 1) = 6
                rights(0, 0, 1) = 4
                sold(0, 1) = 0
                cancel(0) throws IllegalState
                """);
    }

    private static void wishesAtMostSix() {
        String wishes = "part(0, 0, 1)\nwish(1, 2) = 0\n";
        Script.run("WISHES wait at a port in a row, at most 6", "open(0, 20)", wishes.repeat(5), """
                wishes(1) = 5
                part(0, 1, 2)
                wish(1, 2) = 0
                wishes(1) = 6
                part(0, 0, 1)
                wish(1, 2) throws IllegalState
                wish(1, 100) throws IllegalState
                wish(2, 2) = 0
                wishes(2) = 1
                hand(0, 1, 0, 0, 2)
                send(0, 1)
                arrive(0, 1) = 1
                wishes(1) = 5
                part(0, 2, 3)
                wish(1, 2) = 0
                wishes(1) = 6
                part(0, 0, 1)
                wish(1, 1) throws IllegalState
                """);
        Script.run("at most 6, also where the seventh would fit", "open(0, 20)", wishes.repeat(6), """
                hand(0, 1, 0, 3, 5)
                send(0, 1)
                arrive(0, 1) = 0
                part(0, 3, 4)
                wish(1, 5) throws IllegalState
                buy(1, 5) = 0
                """);
    }

    private static void servedInTheirOrder() {
        Script.run("SERVING: in their order", """
                open(0, 10)
                part(0, 0, 1)
                buy(0, 10) = 0
                part(0, 0, 1)
                wish(0, 4) = 0
                part(0, 0, 1)
                wish(0, 5) = 0
                part(0, 0, 1)
                wish(0, 6) = 0
                part(0, 0, 1)
                wish(0, 1) = 0
                cancel(0) = 3
                ticket(1, 1) = 4
                ticket(2, 1) = 5
                ticket(3, 1) = 1
                wishes(0) = 1
                cancel(1) = 0
                cancel(2) = 1
                ticket(4, 1) = 6
                """);
        Script.run("SERVING: those that wait on keep their order", """
                open(0, 10)
                part(0, 0, 1)
                buy(0, 10) = 0
                part(0, 0, 1)
                wish(0, 10) = 0
                part(0, 0, 1)
                wish(0, 3) = 0
                part(0, 0, 1)
                wish(0, 8) = 0
                part(0, 0, 1)
                wish(0, 7) = 0
                cancel(0) = 1
                wishes(0) = 3
                cancel(1) = 2
                ticket(2, 1) = 3
                ticket(3, 1) = 7
                cancel(2) = 0
                cancel(3) = 1
                ticket(4, 1) = 8
                """);
    }

    private static void servedEachThatFitsThen() {
        Script.run("SERVING: each that fits then", """
                open(0, 10)
                part(0, 0, 1)
                buy(0, 10) = 0
                part(0, 0, 1)
                wish(0, 11) = 0
                part(0, 0, 1)
                wish(0, 10) = 0
                part(0, 0, 1)
                wish(0, 1) = 0
                part(0, 1, 2)
                wish(0, 11) = 0
                cancel(0) = 1
                ticket(1, 1) = 10
                wishes(0) = 3
                rights(0, 0, 0) = 0
                """);
    }

    private static void servedIfThereAreNot80Tickets() {
        String sentence = "SERVING: sold (if there are not 80 tickets)";
        String wishes = "part(0, 1, 2)\nwish(1, 1) = 0\n".repeat(3);
        String rights = "hand(0, 1, 0, 1, 3)\nsend(0, 1)\n";
        Script.run(sentence, "open(0, 100)", States.tickets(77), wishes, rights,
                "arrive(0, 1) = 3\nwishes(1) = 0\nticket(79, 0) = 1");
        Script.run(sentence, "open(0, 100)", States.tickets(79), wishes, rights,
                "arrive(0, 1) = 1\nwishes(1) = 2\nrights(1, 0, 1) = 2\nticket(79, 0) = 1");
        Script.run(sentence, "open(0, 100)", States.tickets(80), wishes, rights,
                "arrive(0, 1) = 0\nwishes(1) = 3\nrights(1, 0, 1) = 3");
        Script.run(sentence, "open(0, 100)", States.tickets(80),
                "part(0, 2, 3)\nwish(0, 1) = 0\nwishes(0) = 1\ncancel(0) = 0\nwishes(0) = 1");
    }

    private static void servedWithNoWish() {
        Script.run("SERVING where no wish waits", """
                open(0, 10)
                part(0, 0, 1)
                buy(0, 1) = 0
                cancel(0) = 0
                hand(0, 1, 0, 0, 1)
                send(0, 1)
                arrive(0, 1) = 0
                """);
    }

    private static void handedAtOnce() {
        Script.run("HANDING: taken from a's at once", """
                open(0, 10)
                hand(0, 1, 0, 0, 10) = 1
                rights(0, 0, 0) = 0
                rights(1, 0, 0) = 0
                air(0, 0) = 10
                part(0, 0, 1)
                buy(0, 1) = -1
                """);
    }

    private static void transferNumbers() {
        StringBuilder lines = new StringBuilder("open(0, 100)\n");
        for (int b = 1; b < 4; b++) {
            lines.append("hand(0, #, 0, 0, 20) = 1\nsend(0, #) = 1\narrive(0, #) = 0\n"
                    .replace("#", Integer.toString(b)));
        }
        for (int a = 0; a < 4; a++) {
            for (int b = 0; b < 4; b++) {
                int first = a == 0 ? 2 : 1;
                if (a != b) {
                    lines.append(with("hand(A, B, 0, 0, 1) = ", a, b)).append(first).append('\n');
                    lines.append(with("hand(A, B, 0, 0, 1) = ", a, b)).append(first + 1).append('\n');
                }
            }
        }
        Script.run("the next number (the first is 1, for each a and b by themselves)",
                lines.toString());
    }

    /** The outbox is kept full, and goes round several times. */
    private static void transferNumbersGoRound() {
        StringBuilder lines = new StringBuilder("open(0, 100)\n");
        int[] came = new int[4];
        for (int i = 1; i <= 50; i++) {
            lines.append("hand(0, 1, 0, ").append(i % 4).append(", ").append(i % 3 + 1);
            lines.append(") = ").append(i).append('\n');
            int sent = i - 7;
            if (sent > 0) {
                came[sent % 4] += sent % 3 + 1;
                lines.append("hand(0, 1, 0, 0, 1) throws IllegalState\n");
                lines.append("send(0, 1) = ").append(sent).append("\narrive(0, 1) = 0\n");
                lines.append("rights(1, 0, ").append(sent % 4).append(") = ").append(came[sent % 4]);
                lines.append("\nreceipt(0, 1) = 1\n");
            }
        }
        Script.run("each transfer of an outbox keeps its number and rights", lines.toString());
    }

    private static void outboxAtMostEight() {
        Script.run("OUTBOX (at most 8)", "open(0, 100)", """
                hand(0, 1, 0, 0, 1)
                """.repeat(7), """
                hand(0, 1, 0, 0, 1) = 8
                hand(0, 1, 0, 0, 1) throws IllegalState
                hand(0, 1, 0, 1, 1) throws IllegalState
                share(0, 1, 0) = 0, nothing happens
                hand(0, 2, 0, 0, 1) = 1
                send(0, 1) = 1
                hand(0, 1, 0, 0, 1) throws IllegalState
                arrive(0, 1) = 0
                hand(0, 1, 0, 0, 1) throws IllegalState
                receipt(0, 1) = 1
                hand(0, 1, 0, 0, 1) = 9
                hand(0, 1, 0, 0, 1) throws IllegalState
                """);
    }

    private static void wordOrNone() {
        Script.run("A WORD is on its way from a to b, or none", """
                open(0, 10)
                arrive(0, 1) = -1, nothing happens
                hand(0, 1, 0, 0, 1)
                arrive(0, 1) = -1, nothing happens
                send(0, 1) = 1
                send(0, 1) = 1
                arrive(1, 0) = -1, nothing happens
                arrive(0, 1) = 0
                arrive(0, 1) = -1, nothing happens
                """);
    }

    private static void wordOneAbove() {
        Script.run("one above that of the last transfer that b has TAKEN from a (0 at first)", """
                open(0, 10)
                hand(0, 2, 0, 0, 1)
                send(0, 2)
                arrive(0, 2) = 0
                receipt(0, 2) = 1
                hand(0, 2, 0, 0, 2) = 2
                hand(0, 1, 0, 0, 4) = 1
                send(0, 2) = 2
                send(0, 1) = 1
                arrive(0, 1) = 0
                rights(1, 0, 0) = 4
                arrive(0, 2) = 0
                rights(2, 0, 0) = 3
                """);
    }

    private static void wordNotOneAbove() {
        Script.run("a word with the number of the last one taken, or of one before it", """
                open(0, 10)
                hand(0, 1, 0, 0, 1)
                hand(0, 1, 0, 0, 2)
                send(0, 1) = 1
                arrive(0, 1) = 0
                send(0, 1) = 1
                arrive(0, 1) = 0
                rights(1, 0, 0) = 1
                air(0, 0) = 2
                send(0, 1) = 1
                receipt(0, 1) = 1
                arrive(0, 1) = 0
                rights(1, 0, 0) = 1
                send(0, 1) = 2
                arrive(0, 1) = 0
                rights(1, 0, 0) = 3
                air(0, 0) = 0
                send(0, 1) = 2
                arrive(0, 1) = 0
                rights(1, 0, 0) = 3
                """);
        Script.run("an old word is not taken for one with the same room in the outbox", """
                open(0, 10)
                """, "hand(0, 1, 0, 0, 1)\n".repeat(8), """
                send(0, 1) = 1
                arrive(0, 1) = 0
                send(0, 1) = 1
                receipt(0, 1) = 1
                hand(0, 1, 0, 1, 9) = 9
                arrive(0, 1) = 0
                rights(1, 0, 0) = 1
                rights(1, 0, 1) = 0
                air(0, 1) = 9
                receipt(0, 1) = 0
                send(0, 1) = 2
                """);
    }

    private static void receiptInAnyCase() {
        Script.run("In any case a RECEIPT is on its way then", """
                open(0, 10)
                hand(0, 1, 0, 0, 1)
                hand(0, 1, 0, 0, 1)
                send(0, 1) = 1
                receipt(0, 1) = -1, nothing happens
                arrive(0, 1) = 0
                lose(0, 1) = 1
                send(0, 1) = 1
                arrive(0, 1) = 0
                receipt(0, 1) = 1
                receipt(0, 1) = -1, nothing happens
                send(0, 1) = 2
                """);
        Script.run("a receipt for an old word tells the last transfer taken", """
                open(0, 10)
                hand(0, 1, 0, 0, 1)
                hand(0, 1, 0, 0, 1)
                send(0, 1) = 1
                arrive(0, 1) = 0
                send(0, 1) = 1
                receipt(0, 1) = 1
                arrive(0, 1) = 0
                receipt(0, 1) = 0
                send(0, 1) = 2
                """);
    }

    private static void receiptInThePlaceOfAnother() {
        Script.run("a RECEIPT (in the place of another one)", """
                open(0, 10)
                hand(0, 1, 0, 0, 1)
                hand(0, 1, 0, 0, 1)
                send(0, 1) = 1
                arrive(0, 1) = 0
                send(0, 1) = 1
                receipt(0, 1) = 1
                arrive(0, 1) = 0
                send(0, 1) = 2
                arrive(0, 1) = 0
                receipt(0, 1) = 1
                receipt(0, 1) = -1, nothing happens
                send(0, 1) = 0, nothing happens
                hand(0, 1, 0, 0, 1) = 3
                """);
    }

    private static void receiptLeavesTheRest() {
        Script.run("all transfers with its number and lesser ones leave the outbox, no more", """
                open(0, 100)
                """, "hand(0, 1, 0, 0, 1)\n".repeat(8), """
                hand(0, 2, 0, 0, 1) = 1
                send(0, 1) = 1
                arrive(0, 1) = 0
                receipt(0, 1) = 1
                send(0, 1) = 2
                send(0, 2) = 1
                hand(0, 1, 0, 0, 1) = 9
                hand(0, 1, 0, 0, 1) throws IllegalState
                """);
    }

    private static void inTheAir() {
        Script.run("IN THE AIR are those of transfers that were not taken yet", """
                open(0, 10)
                air(0, 0) = 0
                hand(0, 1, 0, 0, 10)
                air(0, 0) = 10
                send(0, 1)
                air(0, 0) = 10
                lose(0, 1) = 1
                air(0, 0) = 10
                crash(0) = 0
                air(0, 0) = 10
                send(0, 1)
                arrive(0, 1)
                air(0, 0) = 0
                send(0, 1)
                air(0, 0) = 0
                arrive(0, 1)
                receipt(0, 1) = 1
                air(0, 0) = 0
                """);
    }

    private static void crashAndNothingElse() {
        Script.run("A CRASH loses words and receipts, and nothing else", States.BUSY, """
                crash(1) = 4
                crash(1) = 0, nothing happens
                rights(1, 0, 0) = 12
                wishes(1) = 1
                till(1) = 35
                ticket(2, 3) = 1
                air(0, 1) = 30
                lose(0, 2) = 1
                part(0, 0, 1) = 3
                send(0, 1) = 1
                send(1, 0) = 1
                arrive(0, 1) = 0
                receipt(0, 1) = 1
                send(0, 1) = 2
                arrive(0, 1) = 1
                """);
    }

    private static void noSuchTicket() {
        String[] calls = {"cancel(#)", "price(#)", "ticket(#, 0)"};
        int[] none = {-1, 3, 79, 80, Integer.MIN_VALUE, Integer.MAX_VALUE};
        int[] ofEighty = {-1, 80, Integer.MIN_VALUE, Integer.MAX_VALUE};
        for (String call : calls) {
            String sentence = "IndexOutOfBounds: there is no such ticket";
            Script.run(sentence, "", call.replace("#", "0") + " throws IndexOutOfBounds");
            Script.each(sentence, none, States.BUSY, call + " throws IndexOutOfBounds");
            Script.each(sentence, ofEighty, States.FULL, call + " throws IndexOutOfBounds");
            Script.each(sentence, new int[] {1, 2}, States.BUSY, call);
            Script.each(sentence, new int[] {0, 79}, States.FULL, call);
        }
    }
}
