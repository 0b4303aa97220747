/** Runs of calls that tests begin with, as texts for a Script. */
final class States {
    /** Two sailings are open, and something is everywhere: whatever a call changed would be seen. */
    static final String BUSY = """
            open(0, 100)
            open(1, 10)
            fare(0, 0, 7)
            fare(0, 1, 1000000000)
            fare(1, 3, 5)
            fare(2, 0, 9)
            hand(0, 1, 0, 0, 20) = 1
            send(0, 1) = 1
            arrive(0, 1) = 0
            send(0, 1) = 1
            hand(0, 1, 0, 1, 30) = 2
            hand(0, 2, 1, 3, 4) = 1
            send(0, 2) = 1
            hand(1, 0, 0, 0, 3) = 1
            send(1, 0) = 1
            arrive(1, 0) = 0
            send(1, 0) = 1
            part(0, 0, 1) = 1
            buy(0, 40) = 0
            part(0, 0, 2) = 1
            part(1, 0, 4) = 2
            buy(0, 6) = 1
            part(0, 0, 1) = 1
            buy(1, 5) = 2
            cancel(0) = 0
            part(1, 0, 4) = 1
            wish(0, 1) = 0
            part(0, 1, 2) = 1
            wish(1, 25) = 0
            part(1, 3, 4) = 1
            wish(2, 4) = 0
            part(0, 2, 4) = 1
            part(0, 3, 4) = 2
            """;

    /** As many tickets, wishes (at port 1), transfers (from 0 to 1) and parts as there can be. */
    static final String FULL = """
            open(0, 100)
            open(1, 100)
            """ + tickets(80) + """
            part(0, 1, 2)
            wish(1, 1) = 0
            """.repeat(6) + """
            hand(0, 1, 0, 2, 3)
            """.repeat(8) + """
            send(0, 1) = 1
            """ + """
            part(0, 3, 4)
            """.repeat(4);

    /** Port 1 has six wishes and no rights; the draft has one part. */
    static final String SIX_WISHES = "open(0, 100)\n" + """
            part(0, 0, 1)
            wish(1, 2) = 0
            """.repeat(6) + "part(0, 1, 2) = 1\n";
    /** Eight transfers wait from 0 to 1; port 0 has 92 rights of leg 0 left. */
    static final String EIGHT_TRANSFERS = "open(0, 100)\n" + """
            hand(0, 1, 0, 0, 1)
            """.repeat(8);

    private States() {
    }

    /** So many tickets of one seat each, bought at port 0 for leg 0 of sailing 0, which is open. */
    static String tickets(int n) {
        return """
            part(0, 0, 1) = 1
            buy(0, 1)
            """.repeat(n);
    }
}
