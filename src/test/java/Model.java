import java.util.ArrayList;
import java.util.List;

/**
 * The document's words once more, in another form than the program's: what happened is kept (every
 * transfer and every ticket), and all numbers are counted from it anew each time.
 */
final class Model {
    private record Part(int sailing, int from, int to) {
        boolean has(int s, int leg) {
            return s == sailing && from <= leg && leg < to;
        }
    }

    private record Wish(List<Part> parts, int n) {
    }

    private static final class Ticket {
        int port;
        int n;
        List<Part> parts;
        long price;
        boolean sold = true;
    }

    private static final class Transfer {
        int a;
        int b;
        int sailing;
        int leg;
        int n;
        int number;
        boolean waits = true;
        boolean taken = false;
    }

    private final int[] seats = new int[4];
    private final int[][] fares = new int[4][4];
    private final List<Transfer> transfers = new ArrayList<>();
    private final List<Ticket> tickets = new ArrayList<>();
    private final List<List<Wish>> rows = new ArrayList<>();
    private final Transfer[][] words = new Transfer[4][4];
    private final Integer[][] receipts = new Integer[4][4];
    private List<Part> draft = new ArrayList<>();

    Model() {
        for (int i = 0; i < 4; i++) {
            rows.add(new ArrayList<>());
        }
    }

    private static void index(int limit, int... indices) {
        for (int i : indices) {
            if (i < 0 || i >= limit) {
                throw new IndexOutOfBoundsException();
            }
        }
    }

    private static void argument(boolean right) {
        if (!right) {
            throw new IllegalArgumentException();
        }
    }

    private static void state(boolean right) {
        if (!right) {
            throw new IllegalStateException();
        }
    }

    void open(int sailing, int n) {
        index(4, sailing);
        argument(n >= 1 && n <= 100);
        state(seats[sailing] == 0);
        seats[sailing] = n;
    }

    void fare(int sailing, int leg, int fare) {
        index(4, sailing, leg);
        argument(fare >= 0 && fare <= 1_000_000_000);
        fares[sailing][leg] = fare;
    }

    int part(int sailing, int from, int to) {
        index(4, sailing);
        index(5, from, to);
        argument(from < to);
        state(seats[sailing] > 0 && draft.size() < 4);
        draft.add(new Part(sailing, from, to));
        return draft.size();
    }

    private static int need(List<Part> parts, int n, int sailing, int leg) {
        int need = 0;
        for (Part part : parts) {
            need += part.has(sailing, leg) ? n : 0;
        }
        return need;
    }

    private boolean fits(int port, List<Part> parts, int n) {
        for (int sailing = 0; sailing < 4; sailing++) {
            for (int leg = 0; leg < 4; leg++) {
                int need = need(parts, n, sailing, leg);
                if (need > 0 && rights(port, sailing, leg) < need) {
                    return false;
                }
            }
        }
        return true;
    }

    private int sale(int port, List<Part> parts, int n) {
        Ticket ticket = new Ticket();
        ticket.port = port;
        ticket.n = n;
        ticket.parts = parts;
        for (Part part : parts) {
            for (int leg = part.from(); leg < part.to(); leg++) {
                ticket.price += (long) n * fares[part.sailing()][leg];
            }
        }
        tickets.add(ticket);
        return tickets.size() - 1;
    }

    private int serve(int port) {
        int before = tickets.size();
        for (Wish wish : new ArrayList<>(rows.get(port))) {
            if (tickets.size() < 80 && fits(port, wish.parts(), wish.n())) {
                sale(port, wish.parts(), wish.n());
                // By which object it is: two wishes may be alike.
                rows.get(port).removeIf(other -> other == wish);
            }
        }
        return tickets.size() - before;
    }

    int buy(int port, int n) {
        index(4, port);
        argument(n >= 1 && n <= 100);
        state(!draft.isEmpty() && tickets.size() < 80);
        List<Part> parts = draft;
        draft = new ArrayList<>();
        return fits(port, parts, n) ? sale(port, parts, n) : -1;
    }

    int wish(int port, int n) {
        index(4, port);
        argument(n >= 1 && n <= 100);
        state(!draft.isEmpty() && rows.get(port).size() < 6);
        rows.get(port).add(new Wish(draft, n));
        draft = new ArrayList<>();
        return serve(port);
    }

    int cancel(int ticket) {
        index(tickets.size(), ticket);
        state(tickets.get(ticket).sold);
        tickets.get(ticket).sold = false;
        return serve(tickets.get(ticket).port);
    }

    int ticket(int ticket, int what) {
        index(tickets.size(), ticket);
        argument(what >= 0 && what <= 3);
        Ticket t = tickets.get(ticket);
        return new int[] {t.port, t.n, t.parts.size(), t.sold ? 1 : 0}[what];
    }

    long price(int ticket) {
        index(tickets.size(), ticket);
        return tickets.get(ticket).price;
    }

    private List<Transfer> outbox(int a, int b) {
        List<Transfer> outbox = new ArrayList<>();
        for (Transfer t : transfers) {
            if (t.a == a && t.b == b && t.waits) {
                outbox.add(t);
            }
        }
        return outbox;
    }

    private int hands(int a, int b, int sailing, int leg, int n) {
        Transfer transfer = new Transfer();
        transfer.number = 1;
        for (Transfer t : transfers) {
            transfer.number += t.a == a && t.b == b ? 1 : 0;
        }
        transfer.a = a;
        transfer.b = b;
        transfer.sailing = sailing;
        transfer.leg = leg;
        transfer.n = n;
        transfers.add(transfer);
        return transfer.number;
    }

    int hand(int a, int b, int sailing, int leg, int n) {
        index(4, a, b, sailing, leg);
        argument(a != b && n >= 1 && n <= 100);
        state(outbox(a, b).size() < 8);
        return rights(a, sailing, leg) >= n ? hands(a, b, sailing, leg, n) : -1;
    }

    int share(int a, int b, int sailing) {
        index(4, a, b, sailing);
        argument(a != b);
        int before = transfers.size();
        for (int leg = 0; leg < 4; leg++) {
            int half = Math.floorDiv(rights(a, sailing, leg) - rights(b, sailing, leg), 2);
            if (half > 0 && outbox(a, b).size() < 8) {
                hands(a, b, sailing, leg, half);
            }
        }
        return transfers.size() - before;
    }

    int send(int a, int b) {
        index(4, a, b);
        argument(a != b);
        if (outbox(a, b).isEmpty()) {
            return 0;
        }
        words[a][b] = outbox(a, b).get(0);
        return words[a][b].number;
    }

    private int lastTaken(int a, int b) {
        int last = 0;
        for (Transfer t : transfers) {
            last = t.a == a && t.b == b && t.taken ? Math.max(last, t.number) : last;
        }
        return last;
    }

    int arrive(int a, int b) {
        index(4, a, b);
        argument(a != b);
        Transfer word = words[a][b];
        if (word == null) {
            return -1;
        }
        words[a][b] = null;
        int made = 0;
        if (word.number == lastTaken(a, b) + 1) {
            word.taken = true;
            made = serve(b);
        }
        receipts[a][b] = lastTaken(a, b);
        return made;
    }

    int receipt(int a, int b) {
        index(4, a, b);
        argument(a != b);
        Integer number = receipts[a][b];
        if (number == null) {
            return -1;
        }
        receipts[a][b] = null;
        int left = 0;
        for (Transfer t : outbox(a, b)) {
            if (t.number <= number) {
                t.waits = false;
                left++;
            }
        }
        return left;
    }

    private int losing(int a, int b) {
        int lost = (words[a][b] == null ? 0 : 1) + (receipts[a][b] == null ? 0 : 1);
        words[a][b] = null;
        receipts[a][b] = null;
        return lost;
    }

    int lose(int a, int b) {
        index(4, a, b);
        argument(a != b);
        return losing(a, b);
    }

    int crash(int port) {
        index(4, port);
        int lost = 0;
        for (int a = 0; a < 4; a++) {
            for (int b = 0; b < 4; b++) {
                lost += a == port || b == port ? losing(a, b) : 0;
            }
        }
        return lost;
    }

    int rights(int port, int sailing, int leg) {
        index(4, port, sailing, leg);
        int rights = port == 0 ? seats[sailing] : 0;
        for (Transfer t : transfers) {
            if (t.sailing == sailing && t.leg == leg) {
                rights -= t.a == port ? t.n : 0;
                rights += t.b == port && t.taken ? t.n : 0;
            }
        }
        for (Ticket t : tickets) {
            rights -= t.port == port && t.sold ? need(t.parts, t.n, sailing, leg) : 0;
        }
        return rights;
    }

    int air(int sailing, int leg) {
        index(4, sailing, leg);
        int air = 0;
        for (Transfer t : transfers) {
            air += t.sailing == sailing && t.leg == leg && !t.taken ? t.n : 0;
        }
        return air;
    }

    int sold(int sailing, int leg) {
        index(4, sailing, leg);
        int sold = 0;
        for (Ticket t : tickets) {
            sold += t.sold ? need(t.parts, t.n, sailing, leg) : 0;
        }
        return sold;
    }

    int wishes(int port) {
        index(4, port);
        return rows.get(port).size();
    }

    long till(int port) {
        index(4, port);
        long till = 0;
        for (Ticket t : tickets) {
            till += t.port == port && t.sold ? t.price : 0;
        }
        return till;
    }

    boolean draftIsEmpty() {
        return draft.isEmpty();
    }

    int ticketCount() {
        return tickets.size();
    }
}
