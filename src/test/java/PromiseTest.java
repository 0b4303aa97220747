/** For each promise of the document: ordinary calls, the edges that it names, and wrong inputs. */
final class PromiseTest {
    private static final int NONE = IslandRights.NONE;
    private static final int[] NO_INDEX_OF_FOUR = {-1, 4, Integer.MIN_VALUE, Integer.MAX_VALUE};
    private static final int[] NO_SEATS = {0, 101, -1, Integer.MIN_VALUE, Integer.MAX_VALUE};

    /** A call with one argument that is to be wrong. */
    interface CallWith {
        void make(int argument);
    }

    public static void main(String[] args) {
        newObject();
        open();
        fare();
        part();
        partOrderOfExceptions();
        buy();
        buyNeedsRightsForEachPart();
        buyWrong();
        eightyTickets();
        wish();
        wishOrder();
        wishWrong();
        wishWithEightyTickets();
        cancel();
        cancelWrong();
        ticket();
        price();
        hand();
        handWrong();
        share();
        shareWithLittleRoom();
        shareWrong();
        send();
        arrive();
        arriveServes();
        arriveAgain();
        receipt();
        receiptInThePlaceOfAnother();
        oldWordAfterReceipt();
        lose();
        crash();
        rights();
        air();
        sold();
        wishes();
        till();
        lanesByThemselves();
        Check.end();
    }

    private static void failsForAll(String what, Class<?> due, int[] arguments, CallWith call) {
        for (int argument : arguments) {
            Check.fails(what + " with " + argument, due, () -> call.make(argument));
        }
    }

    private static IslandRights opened(int seats) {
        IslandRights x = new IslandRights();
        x.open(0, seats);
        return x;
    }

    private static int buyPart(IslandRights x, int port, int n, int sailing, int from, int to) {
        x.part(sailing, from, to);
        return x.buy(port, n);
    }

    private static int wishPart(IslandRights x, int port, int n, int sailing, int from, int to) {
        x.part(sailing, from, to);
        return x.wish(port, n);
    }

    /** Hands rights, sends the word, and lets the word and its receipt arrive. */
    private static int bring(IslandRights x, int a, int b, int sailing, int leg, int n) {
        x.hand(a, b, sailing, leg, n);
        x.send(a, b);
        int made = x.arrive(a, b);
        x.receipt(a, b);
        return made;
    }

    private static void newObject() {
        IslandRights x = new IslandRights();
        for (int i = 0; i < 4; i++) {
            int sailing = i;
            Check.fails("1: part of a sailing", Check.STATE, () -> x.part(sailing, 0, 4));
            Check.same("1: wishes", x.wishes(i), 0);
            Check.same("1: till", x.till(i), 0);
            Check.same("1: crash", x.crash(i), 0);
            for (int leg = 0; leg < 4; leg++) {
                Check.same("1: air", x.air(i, leg), 0);
                Check.same("1: sold", x.sold(i, leg), 0);
                for (int port = 0; port < 4; port++) {
                    Check.same("1: rights", x.rights(port, i, leg), 0);
                }
            }
            for (int b = 0; b < 4; b++) {
                if (b != i) {
                    Check.same("1: send", x.send(i, b), 0);
                    Check.same("1: arrive", x.arrive(i, b), NONE);
                    Check.same("1: receipt", x.receipt(i, b), NONE);
                    Check.same("1: lose", x.lose(i, b), 0);
                }
            }
        }
        Check.fails("1: ticket", Check.INDEX, () -> x.ticket(0, 0));
        Check.fails("1: the draft is empty", Check.STATE, () -> x.buy(0, 1));
        x.open(0, 1);
        Check.same("1: first part", x.part(0, 0, 4), 1);
        Check.same("1: first ticket", x.buy(0, 1), 0);
        Check.same("1: no fares", x.price(0), 0);
    }

    private static void open() {
        IslandRights x = new IslandRights();
        x.open(0, 1);
        x.open(3, 100);
        for (int leg = 0; leg < 4; leg++) {
            Check.same("2: rights of 0", x.rights(0, 0, leg), 1);
            Check.same("2: rights of 3", x.rights(0, 3, leg), 100);
            Check.same("2: rights of 1", x.rights(0, 1, leg), 0);
            Check.same("2: another port", x.rights(1, 3, leg), 0);
        }
        failsForAll("2: no sailing", Check.INDEX, NO_INDEX_OF_FOUR, s -> x.open(s, 0));
        failsForAll("2: no seats", Check.ARGUMENT, NO_SEATS, n -> x.open(0, n));
        failsForAll("2: no seats", Check.ARGUMENT, NO_SEATS, n -> x.open(1, n));
        Check.fails("2: not opened by that", Check.STATE, () -> x.part(1, 0, 1));
        Check.fails("2: it was open", Check.STATE, () -> x.open(3, 5));
        Check.same("2: as before", x.rights(0, 3, 0), 100);
    }

    private static void fare() {
        IslandRights x = new IslandRights();
        x.fare(0, 0, 7);
        x.open(0, 10);
        x.fare(0, 3, 1_000_000_000);
        Check.same("3: ticket", buyPart(x, 0, 1, 0, 0, 4), 0);
        Check.same("3: fares", x.price(0), 1_000_000_007L);
        x.fare(0, 3, 0);
        buyPart(x, 0, 2, 0, 0, 4);
        Check.same("3: from now on", x.price(1), 14);
        Check.same("3: not before", x.price(0), 1_000_000_007L);
        failsForAll("3: no sailing", Check.INDEX, NO_INDEX_OF_FOUR, s -> x.fare(s, 0, -1));
        failsForAll("3: no leg", Check.INDEX, NO_INDEX_OF_FOUR, leg -> x.fare(0, leg, -1));
        int[] wrong = {-1, 1_000_000_001, Integer.MIN_VALUE, Integer.MAX_VALUE};
        failsForAll("3: no fare", Check.ARGUMENT, wrong, fare -> x.fare(0, 0, fare));
        buyPart(x, 0, 1, 0, 0, 1);
        Check.same("3: as before", x.price(2), 7);
    }

    private static void part() {
        IslandRights x = opened(10);
        Check.same("4: first", x.part(0, 0, 1), 1);
        Check.same("4: second, with a leg in common", x.part(0, 0, 4), 2);
        Check.same("4: third", x.part(0, 3, 4), 3);
        Check.same("4: fourth", x.part(0, 1, 3), 4);
        Check.fails("4: fifth", Check.STATE, () -> x.part(0, 0, 1));
        Check.same("4: buy", x.buy(0, 1), 0);
        Check.same("4: parts", x.ticket(0, 2), 4);
        int[] needed = {2, 2, 2, 2};
        for (int leg = 0; leg < 4; leg++) {
            Check.same("4: rights", x.rights(0, 0, leg), 10 - needed[leg]);
        }
        Check.same("4: a new draft", x.part(0, 2, 3), 1);
    }

    private static void partOrderOfExceptions() {
        IslandRights x = opened(10);
        int[] noStop = {-1, 5, Integer.MIN_VALUE, Integer.MAX_VALUE};
        failsForAll("4: no sailing", Check.INDEX, NO_INDEX_OF_FOUR, s -> x.part(s, 2, 2));
        failsForAll("4: no stop from", Check.INDEX, noStop, from -> x.part(0, from, 0));
        failsForAll("4: no stop to", Check.INDEX, noStop, to -> x.part(0, 4, to));
        Check.fails("4: from the last stop", Check.ARGUMENT, () -> x.part(0, 4, 4));
        Check.fails("4: back", Check.ARGUMENT, () -> x.part(0, 3, 1));
        Check.fails("4: back, not open", Check.ARGUMENT, () -> x.part(1, 3, 1));
        Check.fails("4: not open", Check.STATE, () -> x.part(1, 1, 3));
        for (int i = 1; i <= 4; i++) {
            Check.same("4: nothing changed before", x.part(0, 0, 1), i);
        }
        Check.fails("4: full, back", Check.ARGUMENT, () -> x.part(0, 1, 1));
        Check.fails("4: full, no stop", Check.INDEX, () -> x.part(0, 1, 5));
    }

    private static void buy() {
        IslandRights x = opened(10);
        x.open(2, 5);
        x.fare(0, 1, 100);
        x.fare(2, 0, 30);
        x.part(0, 1, 2);
        x.part(2, 0, 1);
        Check.same("5: sold", x.buy(0, 5), 0);
        Check.same("5: rights", x.rights(0, 0, 1), 5);
        Check.same("5: rights", x.rights(0, 2, 0), 0);
        Check.same("5: rights of no part", x.rights(0, 0, 0), 10);
        Check.same("5: till", x.till(0), 650);
        x.part(0, 1, 2);
        x.part(2, 0, 1);
        Check.same("5: all or none", x.buy(0, 1), NONE);
        Check.same("5: none", x.rights(0, 0, 1), 5);
        Check.same("5: none", x.till(0), 650);
        Check.fails("5: the draft is empty then", Check.STATE, () -> x.buy(0, 1));
        Check.same("5: the next ticket", buyPart(x, 0, 5, 0, 1, 2), 1);
        Check.same("5: another port has none", buyPart(x, 1, 1, 0, 3, 4), NONE);
    }

    private static void buyNeedsRightsForEachPart() {
        IslandRights x = opened(10);
        x.part(0, 0, 2);
        x.part(0, 1, 3);
        Check.same("5: 2 n do not fit", x.buy(0, 6), NONE);
        x.part(0, 0, 2);
        x.part(0, 1, 3);
        Check.same("5: 2 n fit", x.buy(0, 5), 0);
        Check.same("5: once", x.rights(0, 0, 0), 5);
        Check.same("5: twice", x.rights(0, 0, 1), 0);
        for (int i = 0; i < 4; i++) {
            x.part(0, 3, 4);
        }
        Check.same("5: 4 n do not fit", x.buy(0, 3), NONE);
        for (int i = 0; i < 4; i++) {
            x.part(0, 3, 4);
        }
        Check.same("5: 4 n fit", x.buy(0, 2), 1);
        Check.same("5: four times", x.rights(0, 0, 3), 2);
    }

    private static void buyWrong() {
        IslandRights x = opened(100);
        failsForAll("5: no port", Check.INDEX, NO_INDEX_OF_FOUR, port -> x.buy(port, 0));
        failsForAll("5: no n, empty", Check.ARGUMENT, NO_SEATS, n -> x.buy(0, n));
        Check.fails("5: empty", Check.STATE, () -> x.buy(0, 1));
        x.part(0, 0, 1);
        failsForAll("5: no port", Check.INDEX, NO_INDEX_OF_FOUR, port -> x.buy(port, 1));
        failsForAll("5: no n", Check.ARGUMENT, NO_SEATS, n -> x.buy(0, n));
        Check.same("5: the draft is as before", x.part(0, 1, 2), 2);
        Check.same("5: all seats", x.buy(0, 100), 0);
    }

    private static void eightyTickets() {
        IslandRights x = opened(100);
        for (int i = 0; i < 80; i++) {
            Check.same("5: ticket", buyPart(x, 0, 1, 0, 0, 1), i);
        }
        Check.fails("5: 80, empty", Check.STATE, () -> x.buy(0, 1));
        x.part(0, 2, 3);
        Check.fails("5: 80", Check.STATE, () -> x.buy(0, 1));
        Check.fails("5: 80, does not fit", Check.STATE, () -> x.buy(1, 1));
        Check.same("5: the draft is as before", x.part(0, 2, 3), 2);
        Check.same("7: cancel", x.cancel(79), 0);
        Check.fails("5: a cancelled one counts", Check.STATE, () -> x.buy(0, 1));
        Check.fails("8: ticket 80", Check.INDEX, () -> x.ticket(80, 0));
        Check.same("8: ticket 79", x.ticket(79, 3), 0);
    }

    private static void wish() {
        IslandRights x = opened(10);
        x.fare(0, 0, 5);
        Check.same("6: at once", wishPart(x, 0, 4, 0, 0, 1), 1);
        Check.same("6: waits no more", x.wishes(0), 0);
        Check.same("6: its ticket", x.ticket(0, 1), 4);
        Check.same("6: its price", x.price(0), 20);
        Check.same("6: waits", wishPart(x, 0, 7, 0, 0, 1), 0);
        Check.same("6: it waits", x.wishes(0), 1);
        Check.fails("6: the draft is empty then", Check.STATE, () -> x.wish(0, 1));
        x.fare(0, 0, 6);
        Check.same("6: sold when the rights are back", x.cancel(0), 1);
        Check.same("6: fares as they are then", x.price(1), 42);
        Check.same("6: the till", x.till(0), 42);
        Check.same("6: none waits", x.wishes(0), 0);
    }

    private static void wishOrder() {
        IslandRights x = opened(10);
        buyPart(x, 0, 10, 0, 0, 1);
        wishPart(x, 0, 8, 0, 0, 1);
        wishPart(x, 0, 3, 0, 0, 1);
        wishPart(x, 0, 2, 0, 0, 1);
        wishPart(x, 0, 6, 0, 0, 1);
        wishPart(x, 0, 1, 0, 0, 1);
        Check.same("6: five wait", x.wishes(0), 5);
        Check.same("6: 8 and 2 fit", x.cancel(0), 2);
        Check.same("6: in their order", x.ticket(1, 1), 8);
        Check.same("6: in their order", x.ticket(2, 1), 2);
        Check.same("6: 3, 6 and 1 wait", x.wishes(0), 3);
        Check.same("6: 3, then 1 after 6", x.cancel(1), 2);
        Check.same("6: the order is kept", x.ticket(3, 1), 3);
        Check.same("6: the order is kept", x.ticket(4, 1), 1);
        Check.same("6: 6 waits", x.wishes(0), 1);
        // The wish that is new has no turn before those that wait.
        Check.same("6: last in the row", wishPart(x, 0, 4, 0, 0, 1), 1);
        Check.same("6: its ticket", x.ticket(5, 1), 4);
        Check.same("6: 4, 3, 2 and 1 are sold", x.rights(0, 0, 0), 0);
        Check.same("6: not enough for 6", x.cancel(5), 0);
        Check.same("6: enough for 6", x.cancel(2), 1);
    }

    private static void wishWrong() {
        IslandRights x = opened(10);
        failsForAll("6: no port", Check.INDEX, NO_INDEX_OF_FOUR, port -> x.wish(port, 0));
        failsForAll("6: no n, empty", Check.ARGUMENT, NO_SEATS, n -> x.wish(0, n));
        Check.fails("6: empty", Check.STATE, () -> x.wish(0, 1));
        for (int i = 1; i <= 6; i++) {
            Check.same("6: waits", wishPart(x, 1, 1, 0, 0, 1), 0);
            Check.same("6: how many", x.wishes(1), i);
        }
        x.part(0, 0, 1);
        Check.fails("6: 6 wait", Check.STATE, () -> x.wish(1, 1));
        failsForAll("6: 6 wait, no n", Check.ARGUMENT, NO_SEATS, n -> x.wish(1, n));
        Check.same("6: the draft is as before", x.part(0, 1, 2), 2);
        Check.same("6: another port has room", x.wish(2, 100), 0);
        Check.same("6: all at once", bring(x, 0, 1, 0, 0, 6), 6);
        Check.same("6: room again", wishPart(x, 1, 1, 0, 0, 1), 0);
    }

    private static void wishWithEightyTickets() {
        IslandRights x = opened(100);
        for (int i = 0; i < 78; i++) {
            buyPart(x, 0, 1, 0, 0, 1);
        }
        wishPart(x, 1, 1, 0, 1, 2);
        wishPart(x, 1, 2, 0, 1, 2);
        wishPart(x, 1, 3, 0, 1, 2);
        Check.same("6: two tickets were left", bring(x, 0, 1, 0, 1, 50), 2);
        Check.same("6: the third waits", x.wishes(1), 1);
        Check.same("6: ticket 79", x.ticket(79, 1), 2);
        Check.same("6: a wish with 80 tickets waits", wishPart(x, 0, 1, 0, 2, 3), 0);
        Check.same("6: it waits", x.wishes(0), 1);
        Check.same("7: 80 tickets", x.cancel(79), 0);
        Check.same("7: its rights are back", x.rights(1, 0, 1), 49);
    }

    private static void cancel() {
        IslandRights x = opened(10);
        x.fare(0, 2, 1_000_000_000);
        bring(x, 0, 1, 0, 2, 6);
        buyPart(x, 0, 4, 0, 2, 3);
        x.part(0, 2, 3);
        x.part(0, 2, 3);
        Check.same("7: bought in port 1", x.buy(1, 3), 1);
        Check.same("7: till", x.till(1), 6_000_000_000L);
        x.fare(0, 2, 1);
        wishPart(x, 0, 1, 0, 2, 3);
        wishPart(x, 1, 1, 0, 2, 3);
        wishPart(x, 1, 6, 0, 2, 3);
        Check.same("7: one of its port's wishes", x.cancel(1), 1);
        Check.same("7: rights are its port's", x.rights(1, 0, 2), 5);
        Check.same("7: not another's", x.rights(0, 0, 2), 0);
        Check.same("7: out of its till", x.till(1), 1);
        Check.same("7: another till", x.till(0), 4_000_000_000L);
        Check.same("7: another port is not served", x.wishes(0), 1);
        Check.same("7: the other wish waits", x.wishes(1), 1);
        Check.same("7: not sold", x.ticket(1, 3), 0);
        Check.same("7: its price stays", x.price(1), 6_000_000_000L);
    }

    private static void cancelWrong() {
        IslandRights x = opened(10);
        int[] none = {0, -1, Integer.MIN_VALUE, Integer.MAX_VALUE};
        failsForAll("7: no ticket", Check.INDEX, none, x::cancel);
        x.fare(0, 0, 3);
        buyPart(x, 0, 2, 0, 0, 1);
        Check.fails("7: no ticket 1", Check.INDEX, () -> x.cancel(1));
        Check.same("7: nothing waits", x.cancel(0), 0);
        Check.fails("7: it was cancelled", Check.STATE, () -> x.cancel(0));
        Check.same("7: back once", x.rights(0, 0, 0), 10);
        Check.same("7: back once", x.till(0), 0);
    }

    private static void ticket() {
        IslandRights x = opened(10);
        bring(x, 0, 3, 0, 1, 7);
        x.part(0, 1, 2);
        x.part(0, 1, 2);
        x.part(0, 1, 2);
        Check.same("8: bought", x.buy(3, 2), 0);
        int[] due = {3, 2, 3, 1};
        for (int what = 0; what < 4; what++) {
            Check.same("8: what " + what, x.ticket(0, what), due[what]);
        }
        x.cancel(0);
        due[3] = 0;
        for (int what = 0; what < 4; what++) {
            Check.same("8: cancelled, what " + what, x.ticket(0, what), due[what]);
        }
        int[] none = {-1, 1, 80, Integer.MIN_VALUE, Integer.MAX_VALUE};
        failsForAll("8: no ticket", Check.INDEX, none, t -> x.ticket(t, 4));
        failsForAll("8: no what", Check.ARGUMENT, NO_INDEX_OF_FOUR, what -> x.ticket(0, what));
    }

    private static void price() {
        IslandRights x = new IslandRights();
        IslandRights y = new IslandRights();
        for (int sailing = 0; sailing < 4; sailing++) {
            y.open(sailing, 100);
            for (int leg = 0; leg < 4; leg++) {
                y.fare(sailing, leg, 1_000_000_000);
            }
            y.part(sailing, 0, 4);
        }
        Check.same("9: bought", y.buy(0, 100), 0);
        Check.same("9: the highest of all", y.price(0), 1_600_000_000_000L);
        x.open(0, 100);
        x.fare(0, 0, 1_000_000_000);
        for (int i = 0; i < 4; i++) {
            x.part(0, 0, 4);
        }
        Check.same("9: bought", x.buy(0, 25), 0);
        Check.same("9: a leg four times", x.price(0), 100_000_000_000L);
        x.open(1, 100);
        x.fare(1, 0, 1);
        x.fare(1, 1, 10);
        x.fare(1, 2, 100);
        x.fare(1, 3, 1000);
        x.part(1, 1, 3);
        x.part(1, 2, 4);
        x.buy(0, 3);
        Check.same("9: legs of all parts", x.price(1), 3 * (110 + 1100));
        x.cancel(1);
        Check.same("9: also when cancelled", x.price(1), 3630);
        int[] none = {-1, 2, 80, Integer.MIN_VALUE, Integer.MAX_VALUE};
        failsForAll("9: no ticket", Check.INDEX, none, x::price);
    }

    private static void hand() {
        IslandRights x = opened(10);
        Check.same("10: the first is 1", x.hand(0, 1, 0, 2, 4), 1);
        Check.same("10: taken from a", x.rights(0, 0, 2), 6);
        Check.same("10: at once, not yet b's", x.rights(1, 0, 2), 0);
        Check.same("10: another leg", x.rights(0, 0, 1), 10);
        Check.same("10: a has less", x.hand(0, 1, 0, 2, 7), NONE);
        Check.same("10: as before", x.rights(0, 0, 2), 6);
        Check.same("10: all it has, the next number", x.hand(0, 1, 0, 2, 6), 2);
        Check.same("10: another b by itself", x.hand(0, 2, 0, 1, 1), 1);
        Check.same("10: not open", x.hand(0, 1, 1, 0, 1), NONE);
        Check.same("10: b has none", x.hand(1, 0, 0, 2, 1), NONE);
        x.send(0, 1);
        x.arrive(0, 1);
        Check.same("10: b has some now", x.hand(1, 0, 0, 2, 4), 1);
    }

    private static void handWrong() {
        IslandRights x = opened(100);
        failsForAll("10: no a", Check.INDEX, NO_INDEX_OF_FOUR, a -> x.hand(a, a, 0, 0, 0));
        failsForAll("10: no a", Check.INDEX, NO_INDEX_OF_FOUR, a -> x.hand(a, 0, 0, 0, 1));
        failsForAll("10: no b", Check.INDEX, NO_INDEX_OF_FOUR, b -> x.hand(0, b, 0, 0, 0));
        failsForAll("10: no sailing", Check.INDEX, NO_INDEX_OF_FOUR, s -> x.hand(0, 0, s, 0, 0));
        failsForAll("10: no leg", Check.INDEX, NO_INDEX_OF_FOUR, leg -> x.hand(0, 0, 0, leg, 0));
        Check.fails("10: the same port", Check.ARGUMENT, () -> x.hand(0, 0, 0, 0, 1));
        failsForAll("10: no n", Check.ARGUMENT, NO_SEATS, n -> x.hand(0, 1, 0, 0, n));
        for (int i = 1; i <= 8; i++) {
            Check.same("10: number", x.hand(0, 1, 0, 0, 1), i);
        }
        Check.fails("10: 8 wait", Check.STATE, () -> x.hand(0, 1, 0, 0, 1));
        Check.fails("10: 8 wait, a has less", Check.STATE, () -> x.hand(0, 1, 0, 0, 100));
        failsForAll("10: 8 wait, no n", Check.ARGUMENT, NO_SEATS, n -> x.hand(0, 1, 0, 0, n));
        Check.fails("10: 8 wait, no leg", Check.INDEX, () -> x.hand(0, 1, 0, 4, 1));
        Check.same("10: as before", x.rights(0, 0, 0), 92);
        x.send(0, 1);
        x.arrive(0, 1);
        Check.fails("10: 8 wait until the receipt", Check.STATE, () -> x.hand(0, 1, 0, 0, 1));
        x.receipt(0, 1);
        Check.same("10: room again", x.hand(0, 1, 0, 0, 92), 9);
    }

    private static void share() {
        IslandRights x = opened(10);
        bring(x, 0, 1, 0, 1, 3);
        bring(x, 0, 1, 0, 2, 5);
        x.hand(0, 2, 0, 3, 9);
        x.open(1, 50);
        Check.same("11: legs 0 and 1", x.share(0, 1, 0), 2);
        Check.same("11: another sailing", x.rights(0, 1, 0), 50);
        int[] left = {5, 5, 5, 1};
        int[] air = {5, 2, 0, 9};
        for (int leg = 0; leg < 4; leg++) {
            Check.same("11: rights of leg " + leg, x.rights(0, 0, leg), left[leg]);
            Check.same("11: air of leg " + leg, x.air(0, leg), air[leg]);
        }
        Check.same("11: the rights in the air do not count", x.share(0, 1, 0), 2);
        Check.same("11: half of 5, whole", x.rights(0, 0, 0), 3);
        Check.same("11: half of 5 - 3", x.rights(0, 0, 1), 4);
        Check.same("11: b has more", x.share(3, 0, 0), 0);
        Check.same("11: not open", x.share(0, 1, 2), 0);
        Check.same("11: numbers go on", x.hand(0, 1, 0, 0, 1), 7);
        IslandRights y = opened(1);
        y.open(1, 50);
        Check.same("11: half of 1 is 0", y.share(0, 1, 0), 0);
        Check.same("11: the sailing's legs only", y.share(0, 1, 1), 4);
        Check.same("11: another sailing", y.rights(0, 0, 3), 1);
    }

    private static void shareWithLittleRoom() {
        IslandRights x = opened(100);
        for (int i = 0; i < 6; i++) {
            x.hand(0, 1, 0, 3, 1);
        }
        Check.same("11: room for two", x.share(0, 1, 0), 2);
        int[] left = {50, 50, 100, 94};
        for (int leg = 0; leg < 4; leg++) {
            Check.same("11: rights of leg " + leg, x.rights(0, 0, leg), left[leg]);
        }
        Check.same("11: no room", x.share(0, 1, 0), 0);
        Check.same("11: room for another port", x.share(0, 2, 0), 4);
        // A share whose first legs give nothing uses the room for the later ones.
        IslandRights y = opened(100);
        y.hand(0, 2, 0, 0, 100);
        for (int i = 0; i < 7; i++) {
            y.hand(0, 1, 0, 3, 1);
        }
        Check.same("11: leg 1 has the last room", y.share(0, 1, 0), 1);
        Check.same("11: leg 1", y.air(0, 1), 50);
    }

    private static void shareWrong() {
        IslandRights x = opened(100);
        failsForAll("11: no a", Check.INDEX, NO_INDEX_OF_FOUR, a -> x.share(a, a, 0));
        failsForAll("11: no a", Check.INDEX, NO_INDEX_OF_FOUR, a -> x.share(a, 0, 0));
        failsForAll("11: no b", Check.INDEX, NO_INDEX_OF_FOUR, b -> x.share(0, b, 0));
        failsForAll("11: no sailing", Check.INDEX, NO_INDEX_OF_FOUR, s -> x.share(0, 0, s));
        Check.fails("11: the same port", Check.ARGUMENT, () -> x.share(2, 2, 0));
        Check.same("11: as before", x.rights(0, 0, 0), 100);
    }

    private static void send() {
        IslandRights x = opened(10);
        Check.same("12: none waits", x.send(0, 1), 0);
        x.hand(0, 1, 0, 0, 1);
        x.hand(0, 1, 0, 0, 2);
        Check.same("12: the first", x.send(0, 1), 1);
        Check.same("12: the first again, in its own place", x.send(0, 1), 1);
        Check.same("12: one word only", x.lose(0, 1), 1);
        Check.same("12: another way", x.send(1, 0), 0);
        x.send(0, 1);
        x.arrive(0, 1);
        Check.same("12: the first until its receipt", x.send(0, 1), 1);
        x.receipt(0, 1);
        Check.same("12: the next, in the place of the first", x.send(0, 1), 2);
        x.arrive(0, 1);
        Check.same("12: it was the next", x.rights(1, 0, 0), 3);
        x.send(0, 1);
        x.receipt(0, 1);
        Check.same("12: none waits", x.send(0, 1), 0);
        Check.same("12: the word is still on its way", x.arrive(0, 1), 0);
        failsForAll("12: no a", Check.INDEX, NO_INDEX_OF_FOUR, a -> x.send(a, a));
        failsForAll("12: no a", Check.INDEX, NO_INDEX_OF_FOUR, a -> x.send(a, 0));
        failsForAll("12: no b", Check.INDEX, NO_INDEX_OF_FOUR, b -> x.send(0, b));
        Check.fails("12: the same port", Check.ARGUMENT, () -> x.send(1, 1));
    }

    private static void arrive() {
        IslandRights x = opened(10);
        Check.same("13: none on its way", x.arrive(0, 1), NONE);
        x.hand(0, 1, 0, 3, 4);
        Check.same("13: not sent", x.arrive(0, 1), NONE);
        x.send(0, 1);
        Check.same("13: another way", x.arrive(1, 0), NONE);
        Check.same("13: taken", x.arrive(0, 1), 0);
        Check.same("13: the rights are b's", x.rights(1, 0, 3), 4);
        Check.same("13: on its way no more", x.arrive(0, 1), NONE);
        Check.same("13: a receipt, no word", x.lose(0, 1), 1);
        failsForAll("13: no a", Check.INDEX, NO_INDEX_OF_FOUR, a -> x.arrive(a, a));
        failsForAll("13: no a", Check.INDEX, NO_INDEX_OF_FOUR, a -> x.arrive(a, 0));
        failsForAll("13: no b", Check.INDEX, NO_INDEX_OF_FOUR, b -> x.arrive(0, b));
        Check.fails("13: the same port", Check.ARGUMENT, () -> x.arrive(1, 1));
    }

    private static void arriveServes() {
        IslandRights x = opened(10);
        wishPart(x, 1, 2, 0, 0, 2);
        wishPart(x, 1, 1, 0, 0, 1);
        wishPart(x, 2, 1, 0, 0, 1);
        Check.same("13: the second wish", bring(x, 0, 1, 0, 0, 2), 1);
        Check.same("13: the first waits", bring(x, 0, 1, 0, 1, 2), 0);
        Check.same("13: the first", bring(x, 0, 1, 0, 0, 1), 1);
        Check.same("13: another port is not served", x.wishes(2), 1);
        Check.same("13: nothing is left", x.rights(1, 0, 0), 0);
    }

    private static void arriveAgain() {
        IslandRights x = opened(10);
        x.hand(0, 1, 0, 0, 3);
        x.hand(0, 1, 0, 0, 2);
        x.send(0, 1);
        x.arrive(0, 1);
        x.send(0, 1);
        wishPart(x, 1, 4, 0, 0, 1);
        Check.same("13: not taken twice", x.arrive(0, 1), 0);
        Check.same("13: the rights of one", x.rights(1, 0, 0), 3);
        Check.same("13: the second is in the air", x.air(0, 0), 2);
        Check.same("13: one receipt in the place of another", x.lose(0, 1), 1);
        x.send(0, 1);
        Check.same("13: a receipt in any case", x.arrive(0, 1), 0);
        Check.same("14: it tells the last taken", x.receipt(0, 1), 1);
        x.send(0, 1);
        Check.same("13: the second", x.arrive(0, 1), 1);
    }

    private static void receipt() {
        IslandRights x = opened(10);
        Check.same("14: none", x.receipt(0, 1), NONE);
        x.hand(0, 1, 0, 0, 1);
        x.hand(0, 1, 0, 0, 1);
        x.send(0, 1);
        Check.same("14: a word is none", x.receipt(0, 1), NONE);
        x.arrive(0, 1);
        Check.same("14: another way", x.receipt(1, 0), NONE);
        Check.same("14: one left", x.receipt(0, 1), 1);
        Check.same("14: on its way no more", x.receipt(0, 1), NONE);
        failsForAll("14: no a", Check.INDEX, NO_INDEX_OF_FOUR, a -> x.receipt(a, a));
        failsForAll("14: no a", Check.INDEX, NO_INDEX_OF_FOUR, a -> x.receipt(a, 0));
        failsForAll("14: no b", Check.INDEX, NO_INDEX_OF_FOUR, b -> x.receipt(0, b));
        Check.fails("14: the same port", Check.ARGUMENT, () -> x.receipt(1, 1));
    }

    private static void receiptInThePlaceOfAnother() {
        IslandRights x = opened(10);
        x.hand(0, 1, 0, 0, 1);
        x.hand(0, 1, 0, 0, 1);
        x.send(0, 1);
        x.arrive(0, 1);
        x.send(0, 1);
        x.receipt(0, 1);
        x.arrive(0, 1);
        x.send(0, 1);
        x.arrive(0, 1);
        Check.same("14: the newer one", x.receipt(0, 1), 1);
        Check.same("14: there is no other", x.receipt(0, 1), NONE);
        Check.same("12: none waits", x.send(0, 1), 0);
    }

    private static void oldWordAfterReceipt() {
        IslandRights x = opened(10);
        for (int i = 0; i < 8; i++) {
            x.hand(0, 1, 0, 0, 1);
        }
        x.send(0, 1);
        x.arrive(0, 1);
        x.send(0, 1);
        x.receipt(0, 1);
        // The ninth one uses the room of the first, whose word is on its way still.
        Check.same("10: the ninth", x.hand(0, 1, 0, 1, 9), 9);
        Check.same("13: an old word", x.arrive(0, 1), 0);
        Check.same("13: not taken", x.rights(1, 0, 0), 1);
        Check.same("13: not taken", x.rights(1, 0, 1), 0);
        Check.same("14: nothing left the outbox", x.receipt(0, 1), 0);
        for (int i = 2; i <= 9; i++) {
            Check.same("12: in turn", x.send(0, 1), i);
            Check.same("13: in turn", x.arrive(0, 1), 0);
            Check.same("14: in turn", x.receipt(0, 1), 1);
        }
        Check.same("13: all taken", x.rights(1, 0, 0), 8);
        Check.same("13: all taken", x.rights(1, 0, 1), 9);
    }

    private static void lose() {
        IslandRights x = opened(10);
        x.hand(0, 1, 0, 0, 1);
        Check.same("15: an outbox is not lost", x.lose(0, 1), 0);
        x.send(0, 1);
        Check.same("15: a word", x.lose(0, 1), 1);
        Check.same("15: it is gone", x.arrive(0, 1), NONE);
        x.send(0, 1);
        x.arrive(0, 1);
        Check.same("15: another way", x.lose(1, 0), 0);
        x.send(0, 1);
        Check.same("15: both", x.lose(0, 1), 2);
        Check.same("15: no word", x.arrive(0, 1), NONE);
        Check.same("15: no receipt", x.receipt(0, 1), NONE);
        Check.same("15: the transfer waits", x.send(0, 1), 1);
        failsForAll("15: no a", Check.INDEX, NO_INDEX_OF_FOUR, a -> x.lose(a, a));
        failsForAll("15: no a", Check.INDEX, NO_INDEX_OF_FOUR, a -> x.lose(a, 0));
        failsForAll("15: no b", Check.INDEX, NO_INDEX_OF_FOUR, b -> x.lose(0, b));
        Check.fails("15: the same port", Check.ARGUMENT, () -> x.lose(1, 1));
        Check.same("15: as before", x.arrive(0, 1), 0);
    }

    /** A word and a receipt on every way between two ports. */
    private static IslandRights busy() {
        IslandRights x = opened(100);
        for (int b = 1; b < 4; b++) {
            bring(x, 0, b, 0, 0, 20);
        }
        for (int a = 0; a < 4; a++) {
            for (int b = 0; b < 4; b++) {
                if (a != b) {
                    x.hand(a, b, 0, 0, 1);
                    x.send(a, b);
                    x.arrive(a, b);
                    x.send(a, b);
                }
            }
        }
        return x;
    }

    private static void crash() {
        for (int port = 0; port < 4; port++) {
            IslandRights x = busy();
            wishPart(x, port, 100, 0, 0, 1);
            int owned = x.rights(port, 0, 0);
            Check.same("16: words and receipts", x.crash(port), 12);
            Check.same("16: nothing is left", x.crash(port), 0);
            Check.same("16: rights stay", x.rights(port, 0, 0), owned);
            Check.same("16: wishes stay", x.wishes(port), 1);
            for (int a = 0; a < 4; a++) {
                for (int b = 0; b < 4; b++) {
                    if (a != b) {
                        boolean lost = a == port || b == port;
                        Check.same("16: " + a + " to " + b, x.lose(a, b), lost ? 0 : 2);
                        Check.same("16: outboxes stay", x.send(a, b) > 0 ? 1 : 0, 1);
                    }
                }
            }
        }
        IslandRights x = busy();
        failsForAll("16: no port", Check.INDEX, NO_INDEX_OF_FOUR, x::crash);
        x.lose(0, 1);
        x.arrive(2, 0);
        Check.same("16: those on their way", x.crash(0), 9);
    }

    private static void rights() {
        IslandRights x = opened(10);
        x.open(3, 20);
        bring(x, 0, 3, 3, 2, 8);
        Check.same("17: what is left", x.rights(0, 3, 2), 12);
        Check.same("17: what came", x.rights(3, 3, 2), 8);
        Check.same("17: another sailing", x.rights(3, 0, 2), 0);
        failsForAll("17: no port", Check.INDEX, NO_INDEX_OF_FOUR, p -> x.rights(p, 0, 0));
        failsForAll("17: no sailing", Check.INDEX, NO_INDEX_OF_FOUR, s -> x.rights(0, s, 0));
        failsForAll("17: no leg", Check.INDEX, NO_INDEX_OF_FOUR, leg -> x.rights(0, 0, leg));
    }

    private static void air() {
        IslandRights x = opened(10);
        x.hand(0, 1, 0, 2, 3);
        x.hand(0, 2, 0, 2, 4);
        Check.same("18: of all outboxes", x.air(0, 2), 7);
        Check.same("18: another leg", x.air(0, 1), 0);
        x.send(0, 1);
        x.lose(0, 1);
        x.crash(0);
        Check.same("18: not lost with the word", x.air(0, 2), 7);
        x.send(0, 1);
        x.arrive(0, 1);
        Check.same("18: taken, without a receipt yet", x.air(0, 2), 4);
        x.receipt(0, 1);
        Check.same("18: with a receipt", x.air(0, 2), 4);
        failsForAll("18: no sailing", Check.INDEX, NO_INDEX_OF_FOUR, s -> x.air(s, 0));
        failsForAll("18: no leg", Check.INDEX, NO_INDEX_OF_FOUR, leg -> x.air(0, leg));
    }

    private static void sold() {
        IslandRights x = opened(10);
        bring(x, 0, 1, 0, 1, 2);
        buyPart(x, 0, 3, 0, 0, 2);
        x.part(0, 1, 2);
        x.part(0, 1, 2);
        x.buy(1, 1);
        Check.same("19: leg 0", x.sold(0, 0), 3);
        Check.same("19: leg 1, of all ports and parts", x.sold(0, 1), 5);
        Check.same("19: leg 2", x.sold(0, 2), 0);
        x.cancel(0);
        Check.same("19: leg 0, cancelled", x.sold(0, 0), 0);
        Check.same("19: leg 1, one cancelled", x.sold(0, 1), 2);
        failsForAll("19: no sailing", Check.INDEX, NO_INDEX_OF_FOUR, s -> x.sold(s, 0));
        failsForAll("19: no leg", Check.INDEX, NO_INDEX_OF_FOUR, leg -> x.sold(0, leg));
    }

    private static void wishes() {
        IslandRights x = opened(10);
        wishPart(x, 3, 1, 0, 0, 1);
        wishPart(x, 3, 1, 0, 0, 1);
        Check.same("20: two wait", x.wishes(3), 2);
        Check.same("20: another port", x.wishes(2), 0);
        bring(x, 0, 3, 0, 0, 1);
        Check.same("20: one waits", x.wishes(3), 1);
        failsForAll("20: no port", Check.INDEX, NO_INDEX_OF_FOUR, x::wishes);
    }

    private static void till() {
        IslandRights x = opened(100);
        x.fare(0, 0, 1_000_000_000);
        buyPart(x, 0, 60, 0, 0, 1);
        buyPart(x, 0, 20, 0, 0, 1);
        Check.same("21: grows", x.till(0), 80_000_000_000L);
        Check.same("21: another port", x.till(1), 0);
        x.cancel(0);
        Check.same("21: falls", x.till(0), 20_000_000_000L);
        failsForAll("21: no port", Check.INDEX, NO_INDEX_OF_FOUR, x::till);
    }

    private static void lanesByThemselves() {
        IslandRights x = opened(100);
        for (int b = 1; b < 4; b++) {
            bring(x, 0, b, 0, 0, 20);
        }
        for (int a = 1; a < 4; a++) {
            for (int b = 0; b < 4; b++) {
                if (a != b) {
                    Check.same("10: each a and b by themselves", x.hand(a, b, 0, 0, 1), 1);
                    Check.same("12: each a and b by themselves", x.send(a, b), 1);
                    Check.same("15: each a and b by themselves", x.lose(a, b), 1);
                }
            }
        }
        Check.same("10: the second from 0 to 1", x.hand(0, 1, 0, 0, 1), 2);
    }
}
