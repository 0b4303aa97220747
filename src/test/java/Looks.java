/**
 * Ways to see all of an object's state through its calls. Most of them change it, and an object has
 * 512 calls only, so each look is for an object of its own.
 */
final class Looks {
    static final int COUNT = 17;

    private final Subject x;
    private final StringBuilder seen = new StringBuilder();

    private Looks(Subject x) {
        this.x = x;
    }

    /** All that is answered in look number which (0 to COUNT - 1). */
    static String look(int which, Subject x) {
        Looks looks = new Looks(x);
        looks.take(which);
        return looks.seen.toString();
    }

    /** The first answer that is not the same in two looks of the same number; "" if all are. */
    static String firstDifference(String one, String other) {
        String[] lines = one.split("\n");
        String[] others = other.split("\n");
        for (int i = 0; i < Math.min(lines.length, others.length); i++) {
            if (!lines[i].equals(others[i])) {
                return lines[i] + " in one, " + others[i] + " in the other";
            }
        }
        return one.equals(other) ? "" : "more or fewer answers";
    }

    private void take(int which) {
        switch (which) {
            case 0 -> numbers();
            case 1 -> tickets(0, 40);
            case 2 -> tickets(40, 80);
            case 3 -> fillDraft();
            case 4 -> buyDraft();
            case 5 -> loseWords();
            case 6, 7, 8, 9 -> emptyOutboxes(which - 6);
            case 10, 11, 12 -> bringRights(which - 9);
            case 13 -> fares();
            case 14 -> cancelAllThenNumbers();
            case 15 -> cancelAllThenTickets(0, 40);
            default -> cancelAllThenTickets(40, 80);
        }
    }

    private Object see(String name, int... arguments) {
        Object answer = x.answer(name, arguments);
        seen.append(Subject.text(name, arguments)).append(' ').append(answer).append('\n');
        return answer;
    }

    private void numbers() {
        for (int i = 0; i < 4; i++) {
            see("wishes", i);
            see("till", i);
            for (int leg = 0; leg < 4; leg++) {
                see("air", i, leg);
                see("sold", i, leg);
                for (int port = 0; port < 4; port++) {
                    see("rights", port, i, leg);
                }
            }
        }
    }

    private void tickets(int from, int to) {
        for (int ticket = from; ticket < to && see("price", ticket) instanceof Long; ticket++) {
            for (int what = 0; what < 4; what++) {
                see("ticket", ticket, what);
            }
        }
    }

    /** How many parts the draft has, and which sailings are open. */
    private void fillDraft() {
        for (int i = 0; i < 5; i++) {
            see("part", 0, 0, 1);
        }
        for (int sailing = 0; sailing < 4; sailing++) {
            see("open", sailing, 100);
        }
    }

    /** Which legs the draft has. */
    private void buyDraft() {
        see("buy", 0, 1);
        numbers();
    }

    private void loseWords() {
        for (int a = 0; a < 4; a++) {
            for (int b = 0; b < 4; b++) {
                if (a != b) {
                    see("lose", a, b);
                }
            }
        }
        numbers();
    }

    /** Which word and receipt are on their way, and which transfers wait, from one port. */
    private void emptyOutboxes(int a) {
        for (int b = 0; b < 4; b++) {
            if (a != b) {
                see("receipt", a, b);
                see("arrive", a, b);
                see("receipt", a, b);
                for (int i = 0; i < 8; i++) {
                    see("send", a, b);
                    see("arrive", a, b);
                    see("receipt", a, b);
                }
                see("hand", a, b, 0, 0, 1);
            }
        }
        numbers();
    }

    /** What the wishes at one port become when rights come. */
    private void bringRights(int b) {
        for (int sailing = 0; sailing < 4; sailing++) {
            see("share", 0, b, sailing);
            for (int i = 0; i < 4; i++) {
                see("send", 0, b);
                see("arrive", 0, b);
                see("receipt", 0, b);
            }
        }
        numbers();
    }

    private void fares() {
        see("buy", 0, 1);
        for (int sailing = 0; sailing < 4; sailing++) {
            for (int leg = 0; leg < 4; leg++) {
                see("part", sailing, leg, leg + 1);
                Object ticket = see("buy", 0, 1);
                if (ticket instanceof Long number && number >= 0) {
                    see("price", number.intValue());
                }
            }
        }
    }

    /** What the wishes become at the ports of the tickets. */
    private void cancelAll() {
        int ticket = 0;
        while (ticket < 80 && !see("cancel", ticket).equals("IndexOutOfBounds")) {
            ticket++;
        }
    }

    private void cancelAllThenNumbers() {
        cancelAll();
        numbers();
    }

    private void cancelAllThenTickets(int from, int to) {
        cancelAll();
        tickets(from, to);
    }
}
