/**
 * Seats of sailings between islands, sold in ports each of which owns rights to some of them:
 * journeys of several parts are sold all or none, wishes wait for rights, and ports hand rights
 * to each other by words that may get lost.
 */
public final class IslandRights {
    public static final int NONE = -1;

    private static final int PORTS = 4;
    private static final int SAILINGS = 4;
    private static final int STOPS = 5;
    private static final int LEGS = 4;
    private static final int PLACES = SAILINGS * LEGS;
    private static final int MAX_SEATS = 100;
    private static final int MAX_FARE = 1_000_000_000;
    private static final int MAX_PARTS = 4;
    private static final int MAX_TICKETS = 80;
    private static final int MAX_WISHES = 6;
    private static final int MAX_TRANSFERS = 8;
    /** Transfers are numbered from 1 on, so 0 can stand for no word and no receipt. */
    private static final int NOTHING = 0;

    // A leg of a sailing has one place, which is its index in every row of legs.
    private final boolean[] opened = new boolean[SAILINGS];
    private final int[] fares = new int[PLACES];
    private final int[] soldSeats = new int[PLACES];
    private final int[] airborne = new int[PLACES];
    private final Port[] ports = new Port[PORTS];
    private final Lane[] lanes = new Lane[PORTS * PORTS];
    private final Ticket[] tickets = new Ticket[MAX_TICKETS];
    private int ticketCount = 0;
    private Journey draft = new Journey();

    public IslandRights() {
        for (int i = 0; i < PORTS; i++) {
            ports[i] = new Port();
        }
        for (int i = 0; i < PORTS * PORTS; i++) {
            lanes[i] = new Lane();
        }
    }

    public void open(int sailing, int seats)
            throws IndexOutOfBoundsException, IllegalArgumentException, IllegalStateException {
        checkSailing(sailing);
        checkSeats(seats);
        if (opened[sailing]) {
            throw new IllegalStateException("the sailing was open");
        }
        opened[sailing] = true;
        for (int leg = 0; leg < LEGS; leg++) {
            ports[0].owned[placeOf(sailing, leg)] = seats;
        }
    }

    public void fare(int sailing, int leg, int fare)
            throws IndexOutOfBoundsException, IllegalArgumentException {
        checkSailing(sailing);
        checkLeg(leg);
        if (fare < 0 || fare > MAX_FARE) {
            throw new IllegalArgumentException("a fare is 0 to 1,000,000,000");
        }
        fares[placeOf(sailing, leg)] = fare;
    }

    public int part(int sailing, int from, int to)
            throws IndexOutOfBoundsException, IllegalArgumentException, IllegalStateException {
        checkSailing(sailing);
        checkStop(from);
        checkStop(to);
        if (from >= to) {
            throw new IllegalArgumentException("a part goes to a later stop");
        }
        if (!opened[sailing]) {
            throw new IllegalStateException("the sailing is not open");
        }
        if (draft.parts == MAX_PARTS) {
            throw new IllegalStateException("the draft is full");
        }
        draft.addPart(sailing, from, to);
        return draft.parts;
    }

    public int buy(int port, int n)
            throws IndexOutOfBoundsException, IllegalArgumentException, IllegalStateException {
        checkPort(port);
        checkSeats(n);
        checkDraft();
        if (ticketCount == MAX_TICKETS) {
            throw new IllegalStateException("there are no tickets left");
        }
        Journey journey = takeDraft();
        return ports[port].fits(journey, n) ? sell(port, journey, n) : NONE;
    }

    public int wish(int port, int n)
            throws IndexOutOfBoundsException, IllegalArgumentException, IllegalStateException {
        checkPort(port);
        checkSeats(n);
        checkDraft();
        if (ports[port].waiting == MAX_WISHES) {
            throw new IllegalStateException("the port's row of wishes is full");
        }
        ports[port].addWish(takeDraft(), n);
        return serve(port);
    }

    public int cancel(int ticket) throws IndexOutOfBoundsException, IllegalStateException {
        checkTicket(ticket);
        Ticket old = tickets[ticket];
        if (old.cancelled) {
            throw new IllegalStateException("the ticket was cancelled");
        }
        old.cancelled = true;
        moveToSold(old.port, old.journey, -old.seats);
        ports[old.port].takings -= old.cost;
        return serve(old.port);
    }

    public int ticket(int ticket, int what)
            throws IndexOutOfBoundsException, IllegalArgumentException {
        checkTicket(ticket);
        Ticket asked = tickets[ticket];
        switch (what) {
            case 0:
                return asked.port;
            case 1:
                return asked.seats;
            case 2:
                return asked.journey.parts;
            case 3:
                return asked.cancelled ? 0 : 1;
            default:
                throw new IllegalArgumentException("what is 0 to 3");
        }
    }

    public long price(int ticket) throws IndexOutOfBoundsException {
        checkTicket(ticket);
        return tickets[ticket].cost;
    }

    public int hand(int a, int b, int sailing, int leg, int n)
            throws IndexOutOfBoundsException, IllegalArgumentException, IllegalStateException {
        checkPort(a);
        checkPort(b);
        checkSailing(sailing);
        checkLeg(leg);
        checkDifferent(a, b);
        checkSeats(n);
        if (laneOf(a, b).isFull()) {
            throw new IllegalStateException("the outbox is full");
        }
        int place = placeOf(sailing, leg);
        return ports[a].owned[place] < n ? NONE : putInOutbox(a, b, place, n);
    }

    public int share(int a, int b, int sailing)
            throws IndexOutOfBoundsException, IllegalArgumentException {
        checkPort(a);
        checkPort(b);
        checkSailing(sailing);
        checkDifferent(a, b);
        int made = 0;
        for (int leg = 0; leg < LEGS; leg++) {
            int place = placeOf(sailing, leg);
            int half = (ports[a].owned[place] - ports[b].owned[place]) / 2;
            if (half > 0 && !laneOf(a, b).isFull()) {
                putInOutbox(a, b, place, half);
                made++;
            }
        }
        return made;
    }

    public int send(int a, int b) throws IndexOutOfBoundsException, IllegalArgumentException {
        checkTwoPorts(a, b);
        Lane lane = laneOf(a, b);
        if (lane.waiting == 0) {
            return 0;
        }
        lane.word = lane.gone + 1;
        return lane.word;
    }

    public int arrive(int a, int b) throws IndexOutOfBoundsException, IllegalArgumentException {
        checkTwoPorts(a, b);
        Lane lane = laneOf(a, b);
        if (lane.word == NOTHING) {
            return NONE;
        }
        boolean isNext = lane.word == lane.taken + 1;
        lane.word = NOTHING;
        int made = isNext ? takeNext(lane, b) : 0;
        lane.answer = lane.taken;
        return made;
    }

    public int receipt(int a, int b) throws IndexOutOfBoundsException, IllegalArgumentException {
        checkTwoPorts(a, b);
        Lane lane = laneOf(a, b);
        if (lane.answer == NOTHING) {
            return NONE;
        }
        int number = lane.answer;
        lane.answer = NOTHING;
        return lane.removeUpTo(number);
    }

    public int lose(int a, int b) throws IndexOutOfBoundsException, IllegalArgumentException {
        checkTwoPorts(a, b);
        return laneOf(a, b).loseAll();
    }

    public int crash(int port) throws IndexOutOfBoundsException {
        checkPort(port);
        int lost = 0;
        for (int other = 0; other < PORTS; other++) {
            if (other != port) {
                lost += laneOf(port, other).loseAll() + laneOf(other, port).loseAll();
            }
        }
        return lost;
    }

    public int rights(int port, int sailing, int leg) throws IndexOutOfBoundsException {
        checkPort(port);
        checkSailing(sailing);
        checkLeg(leg);
        return ports[port].owned[placeOf(sailing, leg)];
    }

    public int air(int sailing, int leg) throws IndexOutOfBoundsException {
        checkSailing(sailing);
        checkLeg(leg);
        return airborne[placeOf(sailing, leg)];
    }

    public int sold(int sailing, int leg) throws IndexOutOfBoundsException {
        checkSailing(sailing);
        checkLeg(leg);
        return soldSeats[placeOf(sailing, leg)];
    }

    public int wishes(int port) throws IndexOutOfBoundsException {
        checkPort(port);
        return ports[port].waiting;
    }

    public long till(int port) throws IndexOutOfBoundsException {
        checkPort(port);
        return ports[port].takings;
    }

    private static void checkPort(int port) {
        if (port < 0 || port >= PORTS) {
            throw new IndexOutOfBoundsException("there is no such port");
        }
    }

    private static void checkSailing(int sailing) {
        if (sailing < 0 || sailing >= SAILINGS) {
            throw new IndexOutOfBoundsException("there is no such sailing");
        }
    }

    private static void checkLeg(int leg) {
        if (leg < 0 || leg >= LEGS) {
            throw new IndexOutOfBoundsException("there is no such leg");
        }
    }

    private static void checkStop(int stop) {
        if (stop < 0 || stop >= STOPS) {
            throw new IndexOutOfBoundsException("there is no such stop");
        }
    }

    private void checkTicket(int ticket) {
        if (ticket < 0 || ticket >= ticketCount) {
            throw new IndexOutOfBoundsException("there is no such ticket");
        }
    }

    private static void checkTwoPorts(int a, int b) {
        checkPort(a);
        checkPort(b);
        checkDifferent(a, b);
    }

    private static void checkDifferent(int a, int b) {
        if (a == b) {
            throw new IllegalArgumentException("both ports are the same");
        }
    }

    private static void checkSeats(int n) {
        if (n < 1 || n > MAX_SEATS) {
            throw new IllegalArgumentException("a number of seats is 1 to 100");
        }
    }

    private void checkDraft() {
        if (draft.parts == 0) {
            throw new IllegalStateException("the draft is empty");
        }
    }

    private static int placeOf(int sailing, int leg) {
        return sailing * LEGS + leg;
    }

    private Lane laneOf(int a, int b) {
        return lanes[a * PORTS + b];
    }

    private Journey takeDraft() {
        Journey journey = draft;
        draft = new Journey();
        return journey;
    }

    /** Sells a journey that fits while a ticket is left: the ticket's number. */
    private int sell(int port, Journey journey, int seats) {
        long cost = costOf(journey, seats);
        moveToSold(port, journey, seats);
        ports[port].takings += cost;
        int number = ticketCount;
        tickets[number] = new Ticket(port, seats, journey, cost);
        ticketCount++;
        return number;
    }

    private long costOf(Journey journey, int seats) {
        long sum = 0;
        for (int place = 0; place < PLACES; place++) {
            // Sixteen fares can be more than an int holds.
            sum += (long) journey.times[place] * fares[place];
        }
        return sum * seats;
    }

    /** A port's rights become seats sold; where seats is below 0, they come back. */
    private void moveToSold(int port, Journey journey, int seats) {
        int[] owned = ports[port].owned;
        for (int place = 0; place < PLACES; place++) {
            int moved = seats * journey.times[place];
            owned[place] -= moved;
            soldSeats[place] += moved;
        }
    }

    /** Goes through a port's wishes once: how many tickets came of that. */
    private int serve(int port) {
        Port served = ports[port];
        int asked = served.waiting;
        int kept = 0;
        for (int i = 0; i < asked; i++) {
            Wish wish = served.row[i];
            if (ticketCount < MAX_TICKETS && served.fits(wish.journey, wish.seats)) {
                sell(port, wish.journey, wish.seats);
            } else {
                served.row[kept] = wish;
                kept++;
            }
        }
        served.waiting = kept;
        return asked - kept;
    }

    /** Hands rights that port a has, where the outbox is not full: the transfer's number. */
    private int putInOutbox(int a, int b, int place, int amount) {
        ports[a].owned[place] -= amount;
        airborne[place] += amount;
        return laneOf(a, b).add(place, amount);
    }

    /**
     * A port takes the next transfer of a lane: how many tickets came of that. The transfer waits
     * in the outbox still, since only a receipt with its number could have removed it.
     */
    private int takeNext(Lane lane, int port) {
        lane.taken++;
        int cell = Lane.cellOf(lane.taken);
        int place = lane.places[cell];
        int amount = lane.amounts[cell];
        airborne[place] -= amount;
        ports[port].owned[place] += amount;
        return serve(port);
    }

    /** The parts of a draft, a wish or a ticket, as what they need. */
    private static final class Journey {
        /** For each leg, how many of the parts have it. */
        final int[] times = new int[PLACES];
        int parts = 0;

        void addPart(int sailing, int from, int to) {
            for (int leg = from; leg < to; leg++) {
                times[placeOf(sailing, leg)]++;
            }
            parts++;
        }
    }

    private static final class Wish {
        final Journey journey;
        final int seats;

        Wish(Journey journey, int seats) {
            this.journey = journey;
            this.seats = seats;
        }
    }

    private static final class Ticket {
        final int port;
        final int seats;
        final Journey journey;
        final long cost;
        boolean cancelled = false;

        Ticket(int port, int seats, Journey journey, long cost) {
            this.port = port;
            this.seats = seats;
            this.journey = journey;
            this.cost = cost;
        }
    }

    private static final class Port {
        final int[] owned = new int[PLACES];
        final Wish[] row = new Wish[MAX_WISHES];
        int waiting = 0;
        long takings = 0;

        boolean fits(Journey journey, int seats) {
            for (int place = 0; place < PLACES; place++) {
                if (owned[place] < seats * journey.times[place]) {
                    return false;
                }
            }
            return true;
        }

        /** Only for a row that is not full. */
        void addWish(Journey journey, int seats) {
            row[waiting] = new Wish(journey, seats);
            waiting++;
        }
    }

    /** From one port to another: the outbox, the word on its way, and the receipt back. */
    private static final class Lane {
        final int[] places = new int[MAX_TRANSFERS];
        final int[] amounts = new int[MAX_TRANSFERS];
        /** Those that left the outbox; so those in it have the numbers gone + 1 .. gone + waiting. */
        int gone = 0;
        int waiting = 0;
        int taken = 0;
        int word = NOTHING;
        int answer = NOTHING;

        /** The numbers in an outbox follow each other, so no two of them share a cell. */
        static int cellOf(int number) {
            return Math.floorMod(number, MAX_TRANSFERS);
        }

        boolean isFull() {
            return waiting == MAX_TRANSFERS;
        }

        /** Only for an outbox that is not full: the transfer's number. */
        int add(int place, int amount) {
            waiting++;
            int number = gone + waiting;
            places[cellOf(number)] = place;
            amounts[cellOf(number)] = amount;
            return number;
        }

        /** Receipts never tell less than one before them did, so number is at least gone. */
        int removeUpTo(int number) {
            int left = number - gone;
            waiting -= left;
            gone = number;
            return left;
        }

        int loseAll() {
            int lost = (word == NOTHING ? 0 : 1) + (answer == NOTHING ? 0 : 1);
            word = NOTHING;
            answer = NOTHING;
            return lost;
        }
    }
}
