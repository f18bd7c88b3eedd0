/** The edges that the document's Terms name, one test for each sentence. */
public final class TermsEdgesTest {
    public static void main(String[] args) {
        sixCornersAndFromFiveOnToZero();
        atMostTwelveStrangersFromZero();
        ticketsAreOfTwoFigures();
        sameLastFigure();
        sameSum();
        oneMore();
        otherOrder();
        sameColour();
        allThatHoldAreAdded();
        allTicketsWithAllTickets();
        eachPairOnce();
        storeFromZeroToHundred();
        whatCostsMoreCannotBeDone();
        eachWalksOnBeforeAnythingIsCounted();
        oneMoreForEachEmptyCorner();
        hoursAreToldFromZero();
        anExceptionChangesNothing();
        theExceptionNamedFirst();
        Check.end();
    }

    private static void sixCornersAndFromFiveOnToZero() {
        for (int corner = 0; corner < 6; corner++) {
            for (int walk = 0; walk < 6; walk++) {
                TicketCoincidences town = Check.townOf(new int[] {1, 0, corner, walk});
                int there = corner;
                for (int hour = 1; hour <= 7; hour++) {
                    for (int step = 0; step < walk; step++) {
                        there = there == 5 ? 0 : there + 1;
                    }
                    town.pass(1);
                    Check.due("Terms, from " + corner + " by " + walk + ", hour " + hour, town.cornerOf(0), there);
                }
            }
        }
    }

    private static void atMostTwelveStrangersFromZero() {
        TicketCoincidences town = new TicketCoincidences();
        for (int i = 0; i < 12; i++) {
            Check.due("Terms, stranger " + i, town.addStranger(i, 0, 0, 0), i);
        }
        Edges.refused("Terms, no thirteenth", town, Check.NOT_NOW, t -> t.addStranger(12, 0, 0, 0));
    }

    private static void points(String what, int ticket, int other, int want) {
        TicketCoincidences town = Check.townOf(new int[] {ticket, 0, 0, 0}, new int[] {other, 1, 0, 0});
        Check.due("Terms, " + what + ", " + ticket + " and " + other, town.pointsOf(0, 1), want);
        Check.due("Terms, " + what + ", " + other + " and " + ticket, town.pointsOf(1, 0), want);
    }

    private static void ticketsAreOfTwoFigures() {
        points("7 is 07", 7, 70, 7);
        points("07 is not 7 alone", 7, 7, 3);
        points("0 is 00", 0, 0, 8);
        points("9 is 09", 9, 90, 7);
        points("07 ends like 17", 7, 17, 1);
    }

    private static void sameLastFigure() {
        points("last figure", 0, 90, 1);
        points("last figure", 9, 99, 1);
        points("only the first figure", 80, 89, 0);
        points("only the first figure", 1, 3, 0);
    }

    private static void sameSum() {
        points("sum 1 and 18", 1, 99, 0);
        points("sum 9", 9, 81, 2);
        points("sum 2", 2, 11, 2);
        points("sum 16", 79, 88, 2);
        points("sums 9 and 10", 9, 37, 0);
    }

    private static void oneMore() {
        points("1 more", 0, 1, 3);
        points("1 more", 98, 99, 3);
        points("1 more, over a ten", 9, 10, 3);
        points("1 more, over a ten", 89, 90, 3);
        points("not from 99 on to 0", 99, 0, 0);
        points("2 more", 0, 2, 0);
        points("2 more", 97, 99, 0);
    }

    private static void otherOrder() {
        points("12 and 21", 12, 21, 7);
        points("11 and 11", 11, 11, 8);
        points("not 12 and 12", 12, 12, 3);
        points("01 and 10", 1, 10, 7);
        points("89 and 98", 89, 98, 7);
        points("99 and 99", 99, 99, 8);
        points("not 12 and 31", 12, 31, 0);
        points("not 12 and 20", 12, 20, 0);
    }

    private static void sameColour() {
        for (int colour = 0; colour < 5; colour++) {
            for (int other = 0; other < 5; other++) {
                TicketCoincidences town = Check.townOf(new int[] {12, colour, 0, 0}, new int[] {35, other, 0, 0});
                Check.due("Terms, colours " + colour + " and " + other, town.pointsOf(0, 1), colour == other ? 2 : 0);
            }
        }
    }

    private static void allThatHoldAreAdded() {
        int[][] pairs = {{11, 11, 10}, {12, 21, 9}, {12, 12, 5}, {12, 13, 5}, {12, 42, 3}, {12, 30, 4}, {12, 35, 2}};
        for (int[] p : pairs) {
            TicketCoincidences town = Check.townOf(new int[] {p[0], 4, 0, 0}, new int[] {p[1], 4, 0, 0});
            Check.due("Terms, one colour, " + p[0] + " and " + p[1], town.pointsOf(0, 1), p[2]);
        }
    }

    private static String figures(int ticket) {
        return ticket < 10 ? "0" + ticket : "" + ticket;
    }

    private static int due(int ticket, int other) {
        String p = figures(ticket);
        String q = figures(other);
        int points = p.charAt(1) == q.charAt(1) ? 1 : 0;
        points += p.charAt(0) + p.charAt(1) == q.charAt(0) + q.charAt(1) ? 2 : 0;
        points += ticket + 1 == other || other + 1 == ticket ? 3 : 0;
        return points + (p.equals("" + q.charAt(1) + q.charAt(0)) ? 5 : 0);
    }

    private static void allTicketsWithAllTickets() {
        for (int ticket = 0; ticket < 100; ticket++) {
            for (int other = 0; other < 100; other++) {
                points("all", ticket, other, due(ticket, other));
            }
        }
    }

    private static void eachPairOnce() {
        TicketCoincidences two = Check.townOf(new int[] {12, 0, 5, 0}, new int[] {21, 1, 5, 0});
        Check.due("Terms, one pair", two.coincidences(), 7);
        // 3 pairs of 10 points.
        TicketCoincidences three = Check.townOf(new int[] {11, 0, 0, 0}, new int[] {11, 0, 0, 0},
                new int[] {11, 0, 0, 0});
        Check.due("Terms, three pairs", three.coincidences(), 30);
        Check.due("Terms, 66 pairs", Edges.twelveAlike(5).coincidences(), 660);
        Check.due("Terms, counted once", two.pass(1), 7);
    }

    private static void storeFromZeroToHundred() {
        TicketCoincidences town = Edges.withStore(0);
        Check.due("Terms, the least", town.store(), 0);
        Check.due("Terms, first", new TicketCoincidences().store(), 20);
        TicketCoincidences full = new TicketCoincidences();
        full.pass(60);
        Check.due("Terms, the most", full.store(), 100);
    }

    private static void whatCostsMoreCannotBeDone() {
        for (int left = 0; left <= 1; left++) {
            Edges.refused("Terms, a way with " + left, Edges.withStore(left), Check.NOT_NOW, t -> t.move(0, 1));
        }
        TicketCoincidences town = Edges.withStore(2);
        Edges.taken("Terms, all that there is", town, t -> t.move(0, 1));
        Check.due("Terms, nothing is left", town.store(), 0);
    }

    private static void eachWalksOnBeforeAnythingIsCounted() {
        TicketCoincidences parting = Check.townOf(new int[] {11, 0, 5, 0}, new int[] {11, 0, 5, 1});
        Check.due("Terms, parted before it is counted", parting.pass(1), 0);
        Check.due("Terms, two corners are taken behind the walk", parting.store(), 24);
        TicketCoincidences meeting = Check.townOf(new int[] {11, 0, 0, 0}, new int[] {11, 0, 5, 1});
        Check.due("Terms, met before it is counted", meeting.pass(1), 10);
        Check.due("Terms, one corner is taken behind the walk", meeting.store(), 25);
    }

    private static void oneMoreForEachEmptyCorner() {
        for (int taken = 0; taken <= 6; taken++) {
            TicketCoincidences town = new TicketCoincidences();
            for (int corner = 0; corner < taken; corner++) {
                town.addStranger(12, 0, corner, 0);
                town.addStranger(21, 0, corner, 0);
            }
            town.pass(1);
            Check.due("Terms, taken corners " + taken, town.store(), 20 + 6 - taken);
        }
    }

    private static void hoursAreToldFromZero() {
        TicketCoincidences town = Edges.crowd(2);
        Check.due("Terms, hour 0", town.hour(), 0);
        for (int hour = 1; hour <= 70; hour++) {
            town.pass(1);
            Check.due("Terms, 1 greater", town.hour(), hour);
        }
    }

    private static final Edges.OnTown[] REFUSED = {
        t -> t.addStranger(100, 0, 0, 0), t -> t.addStranger(0, 0, 0, 0),
        t -> t.setWalk(12, 0), t -> t.setWalk(0, 6),
        t -> t.move(12, 0), t -> t.move(0, 6), t -> t.move(0, 0), t -> t.move(0, 1),
        t -> t.swapUmbrellas(0, 12), t -> t.swapUmbrellas(0, 0), t -> t.swapUmbrellas(0, 2), t -> t.swapUmbrellas(0, 1),
        t -> t.swapTickets(12, 0), t -> t.swapTickets(0, 0), t -> t.swapTickets(0, 1),
        t -> t.draw(12, 0), t -> t.draw(0, 100), t -> t.draw(0, 0),
        t -> t.pass(0), t -> t.pass(61),
        t -> t.ticketOf(12), t -> t.colourOf(12), t -> t.cornerOf(12), t -> t.walkOf(12), t -> t.peopleAt(6),
        t -> t.pointsOf(0, 12), t -> t.pointsOf(0, 0), t -> t.areTogether(0, 12), t -> t.areTogether(0, 0),
        t -> t.areMirrored(0, 12), t -> t.areMirrored(0, 0), t -> t.coincidencesAt(6), t -> t.luckOf(12),
        t -> t.coincidencesIn(61), t -> t.hoursUntilTogether(0, 12), t -> t.hoursUntilTogether(0, 0),
        t -> t.costOfMeeting(0, 12), t -> t.costOfMeeting(0, 0), t -> t.bestCorner(12), t -> t.bestTicket(12),
    };

    /** Twelve strangers with an empty store, so that each call of the machine is refused too. */
    private static TicketCoincidences spentOut() {
        TicketCoincidences town = Edges.withStore(0);
        for (int i = 3; i < 12; i++) {
            town.addStranger(i * 8, i % 5, i % 6, i % 6);
        }
        return town;
    }

    /** Behind all refused calls the town goes on just like one that was never asked. */
    private static void anExceptionChangesNothing() {
        TicketCoincidences asked = spentOut();
        int number = 0;
        for (Edges.OnTown call : REFUSED) {
            boolean threw = false;
            try {
                call.of(asked);
            } catch (RuntimeException e) {
                threw = true;
            }
            Check.due("Terms, refused call " + number++, threw, true);
        }
        TicketCoincidences left = spentOut();
        Check.due("Terms, behind all refused calls", Edges.told(asked), Edges.told(left));
        Check.due("Terms, the hours behind them", asked.pass(7), left.pass(7));
        Check.due("Terms, the town behind these hours", Edges.told(asked), Edges.told(left));
    }

    private static void theExceptionNamedFirst() {
        Edges.refused("Terms, addStranger", Edges.full(), Check.NOT_ALLOWED, t -> t.addStranger(-1, 0, 0, 0));
        Edges.refused("Terms, setWalk", Edges.full(), Check.NO_SUCH, t -> t.setWalk(12, 6));
        Edges.refused("Terms, move, all three", spentOut(), Check.NO_SUCH, t -> t.move(12, 6));
        Edges.refused("Terms, move, the last two", spentOut(), Check.NOT_ALLOWED, t -> t.move(0, 6));
        Edges.refused("Terms, swapUmbrellas, all three", spentOut(), Check.NO_SUCH, t -> t.swapUmbrellas(12, 12));
        Edges.refused("Terms, swapUmbrellas, the last two", spentOut(), Check.NOT_ALLOWED, t -> t.swapUmbrellas(0, 0));
        Edges.refused("Terms, swapTickets, all three", spentOut(), Check.NO_SUCH, t -> t.swapTickets(12, 12));
        Edges.refused("Terms, swapTickets, the last two", spentOut(), Check.NOT_ALLOWED, t -> t.swapTickets(0, 0));
        Edges.refused("Terms, draw, all three", spentOut(), Check.NO_SUCH, t -> t.draw(12, 100));
        Edges.refused("Terms, draw, the last two", spentOut(), Check.NOT_ALLOWED, t -> t.draw(0, 100));
        Edges.refused("Terms, pointsOf", Edges.full(), Check.NO_SUCH, t -> t.pointsOf(12, 12));
        Edges.refused("Terms, areTogether", Edges.full(), Check.NO_SUCH, t -> t.areTogether(12, 12));
        Edges.refused("Terms, areMirrored", Edges.full(), Check.NO_SUCH, t -> t.areMirrored(12, 12));
        Edges.refused("Terms, hoursUntilTogether", Edges.full(), Check.NO_SUCH, t -> t.hoursUntilTogether(12, 12));
        Edges.refused("Terms, costOfMeeting", Edges.full(), Check.NO_SUCH, t -> t.costOfMeeting(12, 12));
    }
}
