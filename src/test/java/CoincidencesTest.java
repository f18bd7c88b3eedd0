/** Promises 19 to 25: pointsOf, areTogether, areMirrored, coincidences, coincidencesAt, luckOf, luckiestPair. */
public final class CoincidencesTest {
    public static void main(String[] args) {
        pointsOfTickets();
        pointsOfUmbrellas();
        areTogether();
        areMirrored();
        wrongPairs();
        coincidences();
        noSuchCornerOrStranger();
        luckiestPair();
        Check.end();
    }

    /** Two strangers at corners 0 and 3, with umbrellas of colours 0 and 1. */
    private static TicketCoincidences apart(int ticket, int other) {
        TicketCoincidences town = new TicketCoincidences();
        town.addStranger(ticket, 0, 0, 0);
        town.addStranger(other, 1, 3, 0);
        return town;
    }

    private static void points(int ticket, int other, int want) {
        TicketCoincidences town = apart(ticket, other);
        Check.asks("19 " + ticket + " and " + other, town, () -> town.pointsOf(0, 1), want);
        Check.asks("19 " + other + " and " + ticket, town, () -> town.pointsOf(1, 0), want);
    }

    private static void pointsOfTickets() {
        points(12, 35, 0);
        points(12, 42, 1);
        points(12, 30, 2);
        points(12, 13, 3);
        points(19, 20, 3);
        points(9, 10, 3);
        points(12, 21, 7);
        points(12, 12, 3);
        points(11, 11, 8);
        points(0, 0, 8);
        points(0, 99, 0);
        points(0, 10, 1);
        points(7, 70, 7);
        points(7, 7, 3);
        points(1, 10, 7);
        points(10, 11, 3);
        points(99, 98, 3);
        points(45, 54, 7);
    }

    private static void pointsOfUmbrellas() {
        TicketCoincidences town = new TicketCoincidences();
        town.addStranger(12, 2, 0, 0);
        town.addStranger(35, 2, 1, 0);
        town.addStranger(21, 2, 2, 0);
        Check.due("19 the same colour", town.pointsOf(0, 1), 2);
        Check.due("19 all that hold", town.pointsOf(0, 2), 9);
    }

    private static void areTogether() {
        TicketCoincidences town = new TicketCoincidences();
        town.addStranger(12, 0, 2, 0);
        town.addStranger(21, 1, 2, 1);
        town.addStranger(12, 0, 3, 0);
        Check.asks("20 together", town, () -> town.areTogether(0, 1), true);
        Check.asks("20 apart", town, () -> town.areTogether(0, 2), false);
        town.pass(1);
        Check.due("20 gone on", town.areTogether(1, 0), false);
        Check.due("20 met", town.areTogether(1, 2), true);
    }

    private static void mirrored(int ticket, int other, boolean want) {
        TicketCoincidences town = apart(ticket, other);
        Check.asks("21 " + ticket + " and " + other, town, () -> town.areMirrored(0, 1), want);
        Check.asks("21 " + other + " and " + ticket, town, () -> town.areMirrored(1, 0), want);
    }

    private static void areMirrored() {
        mirrored(12, 21, true);
        mirrored(11, 11, true);
        mirrored(12, 12, false);
        mirrored(7, 70, true);
        mirrored(7, 7, false);
        mirrored(0, 0, true);
        mirrored(12, 31, false);
        mirrored(12, 20, false);
        mirrored(12, 30, false);
    }

    private static void wrongPairs() {
        TicketCoincidences town = apart(12, 21);
        int[][] none = {{-1, 0}, {0, -1}, {2, 0}, {0, 2}, {2, 2}, {-1, -1}, {Integer.MAX_VALUE, 0}};
        for (int[] p : none) {
            String pair = p[0] + ", " + p[1];
            Check.refused("19 " + pair, town, Check.NO_SUCH, () -> town.pointsOf(p[0], p[1]));
            Check.refused("20 " + pair, town, Check.NO_SUCH, () -> town.areTogether(p[0], p[1]));
            Check.refused("21 " + pair, town, Check.NO_SUCH, () -> town.areMirrored(p[0], p[1]));
        }
        for (int s = 0; s < 2; s++) {
            int same = s;
            Check.refused("19 the same", town, Check.NOT_ALLOWED, () -> town.pointsOf(same, same));
            Check.refused("20 the same", town, Check.NOT_ALLOWED, () -> town.areTogether(same, same));
            Check.refused("21 the same", town, Check.NOT_ALLOWED, () -> town.areMirrored(same, same));
        }
    }

    private static void coincidences() {
        TicketCoincidences empty = new TicketCoincidences();
        Check.asks("22 nobody", empty, empty::coincidences, 0);
        Check.asks("23 nobody", empty, () -> empty.coincidencesAt(0), 0);
        TicketCoincidences town = new TicketCoincidences();
        town.addStranger(12, 0, 5, 0);
        town.addStranger(21, 0, 5, 0);
        town.addStranger(13, 1, 5, 0);
        town.addStranger(40, 1, 2, 0);
        town.addStranger(41, 1, 2, 0);
        town.addStranger(12, 0, 1, 0);
        // At 5: 12 and 21 have 9, 12 and 13 have 3, 21 and 13 have 0. At 2: 40 and 41 have 5.
        Check.asks("22 of the town", town, town::coincidences, 17);
        int[] at = {0, 0, 5, 0, 0, 12};
        for (int corner = 0; corner < 6; corner++) {
            int here = corner;
            Check.asks("23 corner " + corner, town, () -> town.coincidencesAt(here), at[corner]);
        }
        int[] luck = {12, 9, 3, 5, 5, 0};
        for (int s = 0; s < 6; s++) {
            int one = s;
            Check.asks("24 luck of " + s, town, () -> town.luckOf(one), luck[s]);
        }
        TicketCoincidences walking = new TicketCoincidences();
        walking.addStranger(12, 0, 5, 1);
        walking.addStranger(21, 0, 5, 0);
        walking.addStranger(13, 0, 0, 0);
        Check.asks("22 now, not behind the next walk", walking, walking::coincidences, 9);
    }

    private static void noSuchCornerOrStranger() {
        TicketCoincidences town = apart(12, 21);
        int[] corners = {-1, 6, Integer.MAX_VALUE, Integer.MIN_VALUE};
        for (int corner : corners) {
            Check.refused("23 corner " + corner, town, Check.NO_SUCH, () -> town.coincidencesAt(corner));
        }
        int[] strangers = {-1, 2, 12, Integer.MAX_VALUE, Integer.MIN_VALUE};
        for (int s : strangers) {
            Check.refused("24 stranger " + s, town, Check.NO_SUCH, () -> town.luckOf(s));
        }
    }

    private static void luckiestPair() {
        TicketCoincidences town = new TicketCoincidences();
        Check.asks("25 nobody", town, town::luckiestPair, -1);
        town.addStranger(12, 0, 0, 0);
        Check.asks("25 one", town, town::luckiestPair, -1);
        town.addStranger(35, 1, 1, 0);
        Check.asks("25 two without points", town, town::luckiestPair, 1);
        town.addStranger(60, 2, 2, 0);
        Check.asks("25 of several the smallest", town, town::luckiestPair, 1);
        town.addStranger(53, 3, 2, 0);
        Check.asks("25 wherever they stand", town, town::luckiestPair, 103);
        town.addStranger(6, 4, 3, 0);
        Check.asks("25 as many points, a greater number", town, town::luckiestPair, 103);
        town.addStranger(21, 0, 4, 0);
        Check.asks("25 more points", town, town::luckiestPair, 5);
        for (int i = 6; i < 10; i++) {
            town.addStranger(82, 1, 5, 0);
        }
        town.addStranger(88, 4, 5, 0);
        town.addStranger(88, 4, 1, 0);
        Check.asks("25 the last two", town, town::luckiestPair, 1011);
    }
}
