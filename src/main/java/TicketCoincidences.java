/** A machine that breeds coincidences among strangers who walk through a town. */
public final class TicketCoincidences {
    private static final int MOST_STRANGERS = 12;
    private static final int CORNERS = 6;
    private static final int COLOURS = 5;
    private static final int TICKETS = 100;
    private static final int GREATEST_WALK = 5;
    private static final int MOST_HOURS = 60;
    private static final int HOURS_AHEAD = 6;

    private static final int FIRST_STORE = 20;
    private static final int FULL_STORE = 100;
    private static final int COST_OF_A_CORNER = 2;
    private static final int COST_OF_UMBRELLAS = 3;
    private static final int COST_OF_TICKETS = 8;
    private static final int COST_OF_DRAWING = 12;

    private static final int POINTS_LAST_FIGURE = 1;
    private static final int POINTS_SUM = 2;
    private static final int POINTS_NEXT = 3;
    private static final int POINTS_MIRRORED = 5;
    private static final int POINTS_COLOUR = 2;

    private static final int PAIR_FACTOR = 100;
    private static final long DIGEST_START = 1979L;
    private static final long DIGEST_FACTOR = 31L;

    // The rows have one place for each stranger that can ever be; people is never greater than that.
    private final int[] tickets;
    private final int[] colours;
    private final int[] corners;
    private final int[] walks;
    private int people;
    private int hourNow;
    private int inStore;
    private int countedInAll;
    private int spentInAll;

    public TicketCoincidences() {
        tickets = new int[MOST_STRANGERS];
        colours = new int[MOST_STRANGERS];
        corners = new int[MOST_STRANGERS];
        walks = new int[MOST_STRANGERS];
        people = 0;
        hourNow = 0;
        inStore = FIRST_STORE;
        countedInAll = 0;
        spentInAll = 0;
    }

    // ---- strangers

    public int addStranger(int ticket, int colour, int corner, int walk)
            throws IllegalArgumentException, IllegalStateException {
        if (!isTicket(ticket) || !isColour(colour) || !isCorner(corner) || !isWalk(walk)) {
            throw new IllegalArgumentException("no such ticket, colour, corner or walk");
        }
        if (people >= MOST_STRANGERS) {
            throw new IllegalStateException("there are 12 strangers");
        }
        int added = people;
        tickets[added] = ticket;
        colours[added] = colour;
        corners[added] = corner;
        walks[added] = walk;
        people = added + 1;
        return added;
    }

    public int setWalk(int stranger, int walk) throws IndexOutOfBoundsException, IllegalArgumentException {
        requireStranger(stranger);
        if (!isWalk(walk)) {
            throw new IllegalArgumentException("a walk is 0 to 5");
        }
        int before = walks[stranger];
        walks[stranger] = walk;
        return before;
    }

    // ---- what the machine does

    public int move(int stranger, int corner)
            throws IndexOutOfBoundsException, IllegalArgumentException, IllegalStateException {
        requireStranger(stranger);
        if (!isCorner(corner)) {
            throw new IllegalArgumentException("a corner is 0 to 5");
        }
        if (corners[stranger] == corner) {
            throw new IllegalStateException("this one stands there");
        }
        int cost = costOfWay(corners[stranger], corner);
        pay(cost);
        corners[stranger] = corner;
        return cost;
    }

    public int swapUmbrellas(int a, int b)
            throws IndexOutOfBoundsException, IllegalArgumentException, IllegalStateException {
        requirePair(a, b);
        if (corners[a] != corners[b]) {
            throw new IllegalStateException("they do not stand at one corner");
        }
        pay(COST_OF_UMBRELLAS);
        int before = townBehind(0);
        exchange(colours, a, b);
        return townBehind(0) - before;
    }

    public int swapTickets(int a, int b)
            throws IndexOutOfBoundsException, IllegalArgumentException, IllegalStateException {
        requirePair(a, b);
        pay(COST_OF_TICKETS);
        int before = townBehind(0);
        exchange(tickets, a, b);
        return townBehind(0) - before;
    }

    public int draw(int stranger, int ticket)
            throws IndexOutOfBoundsException, IllegalArgumentException, IllegalStateException {
        requireStranger(stranger);
        if (!isTicket(ticket)) {
            throw new IllegalArgumentException("a ticket is 0 to 99");
        }
        pay(COST_OF_DRAWING);
        int before = tickets[stranger];
        tickets[stranger] = ticket;
        return before;
    }

    public int pass(int hours) throws IllegalArgumentException {
        if (hours < 1 || hours > MOST_HOURS) {
            throw new IllegalArgumentException("hours are 1 to 60");
        }
        int before = countedInAll;
        for (int i = 0; i < hours; i++) {
            passOneHour();
        }
        return countedInAll - before;
    }

    // ---- what there is

    public int strangers() {
        return people;
    }

    public int hour() {
        return hourNow;
    }

    public int store() {
        return inStore;
    }

    public int counted() {
        return countedInAll;
    }

    public int spent() {
        return spentInAll;
    }

    public int ticketOf(int stranger) throws IndexOutOfBoundsException {
        requireStranger(stranger);
        return tickets[stranger];
    }

    public int colourOf(int stranger) throws IndexOutOfBoundsException {
        requireStranger(stranger);
        return colours[stranger];
    }

    public int cornerOf(int stranger) throws IndexOutOfBoundsException {
        requireStranger(stranger);
        return corners[stranger];
    }

    public int walkOf(int stranger) throws IndexOutOfBoundsException {
        requireStranger(stranger);
        return walks[stranger];
    }

    public int peopleAt(int corner) throws IndexOutOfBoundsException {
        requireCorner(corner);
        return crowdAt(corner);
    }

    // ---- coincidences

    public int pointsOf(int a, int b) throws IndexOutOfBoundsException, IllegalArgumentException {
        requirePair(a, b);
        return pointsOfPair(a, b);
    }

    public boolean areTogether(int a, int b) throws IndexOutOfBoundsException, IllegalArgumentException {
        requirePair(a, b);
        return corners[a] == corners[b];
    }

    public boolean areMirrored(int a, int b) throws IndexOutOfBoundsException, IllegalArgumentException {
        requirePair(a, b);
        return mirrored(tickets[a], tickets[b]);
    }

    public int coincidences() {
        return townBehind(0);
    }

    public int coincidencesAt(int corner) throws IndexOutOfBoundsException {
        requireCorner(corner);
        int sum = 0;
        for (int a = 0; a < people; a++) {
            for (int b = a + 1; b < people; b++) {
                if (corners[a] == corner && corners[b] == corner) {
                    sum += pointsOfPair(a, b);
                }
            }
        }
        return sum;
    }

    public int luckOf(int stranger) throws IndexOutOfBoundsException {
        requireStranger(stranger);
        return luckNow(stranger);
    }

    public int luckiestPair() {
        int best = -1;
        int most = -1;
        for (int a = 0; a < people; a++) {
            for (int b = a + 1; b < people; b++) {
                int points = pointsOfPair(a, b);
                if (points > most) {
                    most = points;
                    best = PAIR_FACTOR * a + b;
                }
            }
        }
        return best;
    }

    // ---- what would be

    public int coincidencesIn(int hours) throws IllegalArgumentException {
        if (hours < 0 || hours > MOST_HOURS) {
            throw new IllegalArgumentException("hours are 0 to 60");
        }
        return townBehind(hours);
    }

    public int hoursUntilTogether(int a, int b) throws IndexOutOfBoundsException, IllegalArgumentException {
        requirePair(a, b);
        // Behind as many hours as there are corners, everybody is back where they are now.
        for (int hours = 0; hours < CORNERS; hours++) {
            if (cornerBehind(a, hours) == cornerBehind(b, hours)) {
                return hours;
            }
        }
        return -1;
    }

    public int costOfMeeting(int a, int b) throws IndexOutOfBoundsException, IllegalArgumentException {
        requirePair(a, b);
        return costOfWay(corners[a], corners[b]);
    }

    public int bestHour() {
        int best = 1;
        int most = townBehind(1);
        for (int hours = 2; hours <= HOURS_AHEAD; hours++) {
            int sum = townBehind(hours);
            if (sum > most) {
                most = sum;
                best = hours;
            }
        }
        return best;
    }

    public int bestCorner(int stranger) throws IndexOutOfBoundsException {
        requireStranger(stranger);
        // All pairs without this one stay as they are: what is best for this one is best for the town.
        int best = 0;
        int most = -1;
        for (int corner = 0; corner < CORNERS; corner++) {
            int luck = luckWith(stranger, tickets[stranger], corner);
            if (luck > most) {
                most = luck;
                best = corner;
            }
        }
        return best;
    }

    public int bestSwap() {
        int best = -1;
        int most = townBehind(0);
        for (int a = 0; a < people; a++) {
            for (int b = a + 1; b < people; b++) {
                int sum = townIfSwapped(a, b);
                if (sum > most) {
                    most = sum;
                    best = PAIR_FACTOR * a + b;
                }
            }
        }
        return best;
    }

    public int bestTicket(int stranger) throws IndexOutOfBoundsException {
        requireStranger(stranger);
        // As in bestCorner, only the pairs with this one change.
        int best = 0;
        int most = -1;
        for (int ticket = 0; ticket < TICKETS; ticket++) {
            int luck = luckWith(stranger, ticket, corners[stranger]);
            if (luck > most) {
                most = luck;
                best = ticket;
            }
        }
        return best;
    }

    public double meanLuck() {
        if (people == 0) {
            return 0.0;
        }
        int sum = 0;
        for (int i = 0; i < people; i++) {
            sum += luckNow(i);
        }
        return (double) sum / (double) people;
    }

    public long digest() {
        long d = DIGEST_START;
        d = mixed(d, people);
        d = mixed(d, hourNow);
        d = mixed(d, inStore);
        d = mixed(d, countedInAll);
        d = mixed(d, spentInAll);
        d = mixed(d, coincidences());
        d = mixed(d, luckiestPair());
        d = mixed(d, bestHour());
        d = mixed(d, bestSwap());
        for (int corner = 0; corner < CORNERS; corner++) {
            d = mixed(d, peopleAt(corner));
            d = mixed(d, coincidencesAt(corner));
        }
        for (int i = 0; i < people; i++) {
            d = mixed(d, tickets[i]);
            d = mixed(d, colours[i]);
            d = mixed(d, corners[i]);
            d = mixed(d, walks[i]);
            d = mixed(d, luckNow(i));
            d = mixed(d, bestCorner(i));
        }
        return d;
    }

    // ---- what is allowed

    private static boolean isTicket(int ticket) {
        return ticket >= 0 && ticket < TICKETS;
    }

    private static boolean isColour(int colour) {
        return colour >= 0 && colour < COLOURS;
    }

    private static boolean isCorner(int corner) {
        return corner >= 0 && corner < CORNERS;
    }

    private static boolean isWalk(int walk) {
        return walk >= 0 && walk <= GREATEST_WALK;
    }

    private void requireStranger(int stranger) {
        if (stranger < 0 || stranger >= people) {
            throw new IndexOutOfBoundsException("there is no such stranger");
        }
    }

    private void requirePair(int a, int b) {
        requireStranger(a);
        requireStranger(b);
        if (a == b) {
            throw new IllegalArgumentException("both are the same");
        }
    }

    private static void requireCorner(int corner) {
        if (!isCorner(corner)) {
            throw new IndexOutOfBoundsException("a corner is 0 to 5");
        }
    }

    // ---- what the machine spends and counts

    private void pay(int cost) {
        if (cost > inStore) {
            throw new IllegalStateException("it costs too much");
        }
        inStore -= cost;
        spentInAll += cost;
    }

    private static int costOfWay(int from, int to) {
        int oneWay = Math.abs(from - to);
        return COST_OF_A_CORNER * Math.min(oneWay, CORNERS - oneWay);
    }

    private void passOneHour() {
        for (int i = 0; i < people; i++) {
            corners[i] = cornerBehind(i, 1);
        }
        countedInAll += townBehind(0);
        inStore = Math.min(FULL_STORE, inStore + emptyCorners());
        hourNow++;
    }

    private int emptyCorners() {
        int empty = 0;
        for (int corner = 0; corner < CORNERS; corner++) {
            if (crowdAt(corner) == 0) {
                empty++;
            }
        }
        return empty;
    }

    private int crowdAt(int corner) {
        int crowd = 0;
        for (int i = 0; i < people; i++) {
            if (corners[i] == corner) {
                crowd++;
            }
        }
        return crowd;
    }

    private static void exchange(int[] row, int a, int b) {
        int kept = row[a];
        row[a] = row[b];
        row[b] = kept;
    }

    // ---- points

    private static boolean mirrored(int ticket, int other) {
        return ticket / 10 == other % 10 && ticket % 10 == other / 10;
    }

    private static int figureSum(int ticket) {
        return ticket / 10 + ticket % 10;
    }

    private static int pointsOfTickets(int ticket, int other) {
        int points = 0;
        if (ticket % 10 == other % 10) {
            points += POINTS_LAST_FIGURE;
        }
        if (figureSum(ticket) == figureSum(other)) {
            points += POINTS_SUM;
        }
        if (Math.abs(ticket - other) == 1) {
            points += POINTS_NEXT;
        }
        if (mirrored(ticket, other)) {
            points += POINTS_MIRRORED;
        }
        return points;
    }

    private static int pointsOfColours(int colour, int other) {
        return colour == other ? POINTS_COLOUR : 0;
    }

    private int pointsOfPair(int a, int b) {
        return pointsOfTickets(tickets[a], tickets[b]) + pointsOfColours(colours[a], colours[b]);
    }

    private int cornerBehind(int stranger, int hours) {
        return (corners[stranger] + walks[stranger] * hours) % CORNERS;
    }

    private int townBehind(int hours) {
        int sum = 0;
        for (int a = 0; a < people; a++) {
            for (int b = a + 1; b < people; b++) {
                if (cornerBehind(a, hours) == cornerBehind(b, hours)) {
                    sum += pointsOfPair(a, b);
                }
            }
        }
        return sum;
    }

    private int townIfSwapped(int a, int b) {
        exchange(tickets, a, b);
        int sum = townBehind(0);
        exchange(tickets, a, b);
        return sum;
    }

    private int luckNow(int stranger) {
        return luckWith(stranger, tickets[stranger], corners[stranger]);
    }

    private int luckWith(int stranger, int ticket, int corner) {
        int sum = 0;
        for (int i = 0; i < people; i++) {
            if (i != stranger && corners[i] == corner) {
                sum += pointsOfTickets(ticket, tickets[i]) + pointsOfColours(colours[stranger], colours[i]);
            }
        }
        return sum;
    }

    private static long mixed(long d, long x) {
        return d * DIGEST_FACTOR + x;
    }
}
