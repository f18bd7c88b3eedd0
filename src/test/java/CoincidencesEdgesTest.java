/** The edges of promises 19 to 25, coincidences; one test for each sentence that names one. */
public final class CoincidencesEdgesTest {
    public static void main(String[] args) {
        pointsOfNoSuchStranger();
        pointsOfBothTheSame();
        pointsOfWhereverTheyStand();
        pointsOfFromNoneToTen();
        areTogetherNoSuchStranger();
        areTogetherBothTheSame();
        areTogetherAtOneCorner();
        areMirroredNoSuchStranger();
        areMirroredBothTheSame();
        areMirroredAllTickets();
        coincidencesFromNobodyToTwelve();
        coincidencesOnlyOfOneCorner();
        coincidencesAtNoSuchCorner();
        coincidencesAtEachCorner();
        luckOfNoSuchStranger();
        luckOfFromAloneToTwelve();
        luckOfOnlyAtThisCorner();
        luckiestPairWithFewerThanTwo();
        luckiestPairOfSeveralTheSmallest();
        luckiestPairOfAllPairs();
        luckiestPairWhereverTheyStand();
        Check.end();
    }

    private static TicketCoincidences two(int ticket, int other, int corner, int otherCorner) {
        return Check.townOf(new int[] {ticket, 0, corner, 0}, new int[] {other, 1, otherCorner, 0});
    }

    private static void pointsOfNoSuchStranger() {
        Edges.noSuchPair("19", (t, a, b) -> t.pointsOf(a, b));
    }

    private static void pointsOfBothTheSame() {
        Edges.bothTheSame("19", (t, a, b) -> t.pointsOf(a, b));
    }

    private static void pointsOfWhereverTheyStand() {
        for (int corner = 0; corner < 6; corner++) {
            for (int other = 0; other < 6; other++) {
                Edges.asked("19 at " + corner + " and " + other, two(12, 21, corner, other), 7, t -> t.pointsOf(0, 1));
            }
        }
    }

    private static void pointsOfFromNoneToTen() {
        Edges.asked("19 none", two(12, 35, 0, 0), 0, t -> t.pointsOf(0, 1));
        Edges.asked("19 ten", Edges.twelveAlike(3), 10, t -> t.pointsOf(0, 11));
        Edges.asked("19 ten, turned", Edges.twelveAlike(3), 10, t -> t.pointsOf(11, 0));
        Edges.asked("19 ten, the last two", Edges.twelveAlike(3), 10, t -> t.pointsOf(10, 11));
    }

    private static void areTogetherNoSuchStranger() {
        Edges.noSuchPair("20", (t, a, b) -> t.areTogether(a, b));
    }

    private static void areTogetherBothTheSame() {
        Edges.bothTheSame("20", (t, a, b) -> t.areTogether(a, b));
    }

    private static void areTogetherAtOneCorner() {
        for (int corner = 0; corner < 6; corner++) {
            for (int other = 0; other < 6; other++) {
                String what = "20 at " + corner + " and " + other;
                Edges.asked(what, two(12, 35, corner, other), corner == other, t -> t.areTogether(0, 1));
                Edges.asked(what + ", turned", two(12, 35, corner, other), corner == other, t -> t.areTogether(1, 0));
            }
        }
        TicketCoincidences walking = Check.townOf(new int[] {1, 0, 5, 1}, new int[] {2, 0, 0, 0});
        walking.pass(1);
        Edges.asked("20 from 5 on to 0", walking, true, t -> t.areTogether(0, 1));
        Edges.asked("20 the last two of twelve", Edges.full(), true, t -> t.areTogether(10, 11));
    }

    private static void areMirroredNoSuchStranger() {
        Edges.noSuchPair("21", (t, a, b) -> t.areMirrored(a, b));
    }

    private static void areMirroredBothTheSame() {
        Edges.bothTheSame("21", (t, a, b) -> t.areMirrored(a, b));
    }

    /** For each ticket just one is mirrored: 07 for 70, 00 for 00, 99 for 99. */
    private static void areMirroredAllTickets() {
        for (int first = 0; first <= 9; first++) {
            for (int last = 0; last <= 9; last++) {
                for (int other = 0; other <= 99; other++) {
                    TicketCoincidences town = two(10 * first + last, other, 0, 3);
                    Check.due("21 " + first + last + " and " + other, town.areMirrored(0, 1), other == 10 * last + first);
                }
            }
        }
        Edges.asked("21 12 and 21", two(12, 21, 0, 5), true, t -> t.areMirrored(0, 1));
        Edges.asked("21 not 12 and 12", two(12, 12, 0, 0), false, t -> t.areMirrored(0, 1));
        Edges.asked("21 the first and the last of twelve", Edges.twelveAlike(0), true, t -> t.areMirrored(0, 11));
    }

    private static void coincidencesFromNobodyToTwelve() {
        for (int people = 0; people <= 12; people++) {
            TicketCoincidences town = new TicketCoincidences();
            for (int i = 0; i < people; i++) {
                town.addStranger(11, 4, 5, 0);
            }
            int pairs = people * (people - 1) / 2;
            Edges.asked("22 of " + people, town, 10 * pairs, t -> t.coincidences());
            Edges.asked("23 of " + people, town, 10 * pairs, t -> t.coincidencesAt(5));
        }
    }

    private static void coincidencesOnlyOfOneCorner() {
        for (int corner = 0; corner < 6; corner++) {
            for (int other = 0; other < 6; other++) {
                Edges.asked("22 at " + corner + " and " + other, two(12, 21, corner, other), corner == other ? 7 : 0,
                        t -> t.coincidences());
            }
        }
    }

    private static Object cornerAsked(TicketCoincidences town, int corner) {
        town.coincidencesAt(corner);
        return corner;
    }

    private static void coincidencesAtNoSuchCorner() {
        Edges.range("23 nobody, corner", 0, 5, Check.NO_SUCH, TicketCoincidences::new,
                CoincidencesEdgesTest::cornerAsked);
        Edges.range("23 twelve, corner", 0, 5, Check.NO_SUCH, Edges::full, CoincidencesEdgesTest::cornerAsked);
    }

    private static void coincidencesAtEachCorner() {
        for (int corner = 0; corner < 6; corner++) {
            for (int asked = 0; asked < 6; asked++) {
                int here = asked;
                String what = "23 at " + asked + " of ";
                Edges.asked(what + "nobody", new TicketCoincidences(), 0, t -> t.coincidencesAt(here));
                Edges.asked(what + "one at " + corner, Check.townOf(new int[] {11, 0, corner, 0}), 0,
                        t -> t.coincidencesAt(here));
                Edges.asked(what + "twelve at " + corner, Edges.twelveAlike(corner), asked == corner ? 660 : 0,
                        t -> t.coincidencesAt(here));
                Edges.asked(what + "one each at " + corner + " and the next", two(12, 21, corner, (corner + 1) % 6), 0,
                        t -> t.coincidencesAt(here));
            }
        }
    }

    private static void luckOfNoSuchStranger() {
        Edges.noSuchStranger("24", (t, s) -> t.luckOf(s));
    }

    private static void luckOfFromAloneToTwelve() {
        Edges.asked("24 alone", Check.townOf(new int[] {11, 0, 0, 0}), 0, t -> t.luckOf(0));
        for (int i = 0; i < 12; i++) {
            int one = i;
            Edges.asked("24 luck of " + i + " of twelve", Edges.twelveAlike(5), 110, t -> t.luckOf(one));
        }
    }

    private static void luckOfOnlyAtThisCorner() {
        for (int corner = 0; corner < 6; corner++) {
            for (int other = 0; other < 6; other++) {
                String what = "24 at " + corner + " and " + other;
                Edges.asked(what, two(12, 21, corner, other), corner == other ? 7 : 0, t -> t.luckOf(0));
                Edges.asked(what + ", the second", two(12, 21, corner, other), corner == other ? 7 : 0,
                        t -> t.luckOf(1));
            }
        }
    }

    private static void luckiestPairWithFewerThanTwo() {
        Edges.asked("25 nobody", new TicketCoincidences(), -1, t -> t.luckiestPair());
        Edges.asked("25 one", Edges.crowd(1), -1, t -> t.luckiestPair());
        Edges.asked("25 two", Edges.crowd(2), 1, t -> t.luckiestPair());
    }

    private static void luckiestPairOfSeveralTheSmallest() {
        Edges.asked("25 two without points", two(12, 35, 0, 0), 1, t -> t.luckiestPair());
        Edges.asked("25 66 pairs of ten points", Edges.twelveAlike(0), 1, t -> t.luckiestPair());
        // 12 and 21 have 7 points, as have 34 and 43; 50 has none with any of them.
        Edges.asked("25 of 102 and 203", Check.townOf(new int[] {50, 0, 0, 0}, new int[] {12, 1, 0, 0},
                new int[] {21, 2, 0, 0}, new int[] {12, 3, 0, 0}), 102, t -> t.luckiestPair());
        Edges.asked("25 of 3 and 102", Check.townOf(new int[] {12, 0, 0, 0}, new int[] {34, 1, 0, 0},
                new int[] {43, 2, 0, 0}, new int[] {21, 3, 0, 0}), 3, t -> t.luckiestPair());
        Edges.asked("25 of 2 and 3", Check.townOf(new int[] {12, 0, 0, 0}, new int[] {50, 1, 0, 0},
                new int[] {21, 2, 0, 0}, new int[] {21, 3, 0, 0}), 2, t -> t.luckiestPair());
        Edges.asked("25 more points go before a smaller number", Check.townOf(new int[] {12, 0, 0, 0},
                new int[] {21, 1, 0, 0}, new int[] {88, 2, 0, 0}, new int[] {88, 3, 0, 0}), 203,
                t -> t.luckiestPair());
        TicketCoincidences last = Edges.twelveAlike(0);
        last.draw(0, 50);
        Edges.asked("25 of those that are left the smallest", last, 102, t -> t.luckiestPair());
    }

    private static TicketCoincidences luckyPair(int a, int b) {
        TicketCoincidences town = new TicketCoincidences();
        for (int i = 0; i < 12; i++) {
            // 36 and 36 have 3 points, 77 and 77 have 8, 36 and 77 none.
            town.addStranger(i == a || i == b ? 77 : 36, 0, i % 6, 0);
        }
        return town;
    }

    private static void luckiestPairOfAllPairs() {
        for (int a = 0; a < 12; a++) {
            for (int b = a + 1; b < 12; b++) {
                Edges.asked("25 pair " + a + ", " + b, luckyPair(a, b), 100 * a + b, t -> t.luckiestPair());
            }
        }
    }

    private static void luckiestPairWhereverTheyStand() {
        for (int corner = 0; corner < 6; corner++) {
            Edges.asked("25 the others together, one at " + corner, Check.townOf(new int[] {50, 0, 0, 0},
                    new int[] {12, 1, 0, 0}, new int[] {21, 2, corner, 0}), 102, t -> t.luckiestPair());
        }
    }
}
