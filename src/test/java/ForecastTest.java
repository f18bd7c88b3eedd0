/** Promises 26 to 34: what would be. */
public final class ForecastTest {
    public static void main(String[] args) {
        coincidencesIn();
        hoursUntilTogether();
        costOfMeeting();
        wrongPairs();
        bestHour();
        bestCorner();
        bestSwap();
        bestTicket();
        noSuchStranger();
        meanLuck();
        digestOfANewObject();
        digestOfATown();
        Check.end();
    }

    private static void coincidencesIn() {
        TicketCoincidences town = Check.townOf(new int[] {12, 0, 0, 1}, new int[] {21, 0, 4, 5},
                new int[] {13, 1, 4, 5});
        // 21 and 13 walk together with 0 points; 12 meets both behind 2 and 5 hours: 9 and 3 points.
        int[] due = {0, 0, 12, 0, 0, 12, 0};
        for (int hours = 0; hours < due.length; hours++) {
            int h = hours;
            Check.asks("26 behind " + hours, town, () -> town.coincidencesIn(h), due[hours]);
        }
        Check.asks("26 behind 59", town, () -> town.coincidencesIn(59), 12);
        Check.asks("26 behind 60", town, () -> town.coincidencesIn(60), 0);
        int[] wrong = {-1, 61, Integer.MAX_VALUE, Integer.MIN_VALUE};
        for (int hours : wrong) {
            Check.refused("26 hours " + hours, town, Check.NOT_ALLOWED, () -> town.coincidencesIn(hours));
        }
        Check.due("26 nobody", new TicketCoincidences().coincidencesIn(7), 0);
    }

    private static void until(int corner, int walk, int otherCorner, int otherWalk, int want) {
        TicketCoincidences town = Check.townOf(new int[] {1, 0, corner, walk},
                new int[] {2, 0, otherCorner, otherWalk});
        String what = "27 " + corner + " by " + walk + ", " + otherCorner + " by " + otherWalk;
        Check.asks(what, town, () -> town.hoursUntilTogether(0, 1), want);
        Check.asks(what + ", turned", town, () -> town.hoursUntilTogether(1, 0), want);
    }

    private static void hoursUntilTogether() {
        until(3, 1, 3, 4, 0);
        until(0, 1, 1, 0, 1);
        until(0, 0, 1, 1, 5);
        until(0, 1, 4, 0, 4);
        until(0, 0, 1, 2, -1);
        until(0, 0, 4, 2, 1);
        until(0, 3, 3, 0, 1);
        until(0, 3, 2, 0, -1);
        until(0, 2, 1, 2, -1);
        until(0, 1, 2, 5, 1);
        until(2, 5, 0, 1, 1);
        until(0, 0, 2, 2, 2);
    }

    private static void costOfMeeting() {
        int[] costs = {0, 2, 4, 6, 4, 2};
        for (int from = 0; from < 6; from++) {
            for (int on = 0; on < 6; on++) {
                TicketCoincidences town = Check.townOf(new int[] {1, 0, from, 1}, new int[] {2, 0, (from + on) % 6, 3});
                Check.asks("28 from " + from + " by " + on, town, () -> town.costOfMeeting(0, 1), costs[on]);
            }
        }
        TicketCoincidences poor = Check.townOf(new int[] {1, 0, 0, 0}, new int[] {2, 0, 3, 0});
        poor.draw(0, 5);
        poor.swapTickets(0, 1);
        Check.due("28 whatever is in the store", poor.costOfMeeting(0, 1), 6);
    }

    private static void wrongPairs() {
        TicketCoincidences town = Check.townOf(new int[] {1, 0, 0, 0}, new int[] {2, 0, 3, 0});
        int[][] none = {{-1, 0}, {0, -1}, {2, 0}, {0, 2}, {2, 2}, {-1, -1}, {0, Integer.MIN_VALUE}};
        for (int[] p : none) {
            String pair = p[0] + ", " + p[1];
            Check.refused("27 " + pair, town, Check.NO_SUCH, () -> town.hoursUntilTogether(p[0], p[1]));
            Check.refused("28 " + pair, town, Check.NO_SUCH, () -> town.costOfMeeting(p[0], p[1]));
        }
        Check.refused("27 the same", town, Check.NOT_ALLOWED, () -> town.hoursUntilTogether(1, 1));
        Check.refused("28 the same", town, Check.NOT_ALLOWED, () -> town.costOfMeeting(0, 0));
    }

    private static void bestHour() {
        TicketCoincidences empty = new TicketCoincidences();
        Check.asks("29 nobody", empty, empty::bestHour, 1);
        TicketCoincidences never = Check.townOf(new int[] {12, 0, 0, 0}, new int[] {21, 0, 1, 0});
        Check.asks("29 never", never, never::bestHour, 1);
        TicketCoincidences back = Check.townOf(new int[] {12, 0, 0, 1}, new int[] {21, 0, 0, 0});
        Check.asks("29 not now, but behind 6", back, back::bestHour, 6);
        TicketCoincidences twice = Check.townOf(new int[] {12, 0, 0, 1}, new int[] {21, 0, 4, 5});
        Check.asks("29 of 2 and 5 the fewest", twice, twice::bestHour, 2);
        // 35 comes behind 1 hour with 2 points, 21 behind 3 hours with 7.
        TicketCoincidences more = Check.townOf(new int[] {12, 0, 3, 0}, new int[] {35, 0, 2, 1},
                new int[] {21, 1, 0, 1});
        Check.asks("29 the most", more, more::bestHour, 3);
    }

    private static void bestCorner() {
        TicketCoincidences alone = Check.townOf(new int[] {12, 0, 4, 0});
        Check.asks("30 alone", alone, () -> alone.bestCorner(0), 0);
        TicketCoincidences town = Check.townOf(new int[] {12, 0, 1, 0}, new int[] {21, 1, 3, 0},
                new int[] {13, 1, 2, 0}, new int[] {30, 0, 5, 0});
        // 12 has 7 points with 21, 3 with 13, and 4 with 30.
        Check.asks("30 where the most points are", town, () -> town.bestCorner(0), 3);
        town.draw(3, 21);
        // Now 9 with the 21 at 5.
        Check.asks("30 a farther one, better", town, () -> town.bestCorner(0), 5);
        town.swapTickets(0, 1);
        // Now 7 with the 12 at 3, 5 with the 21 at 5, and the store is 0.
        Check.asks("30 whatever it costs", town, () -> town.bestCorner(0), 3);
        TicketCoincidences even = Check.townOf(new int[] {12, 0, 4, 0}, new int[] {21, 0, 4, 0},
                new int[] {21, 0, 2, 0});
        Check.asks("30 of several the smallest", even, () -> even.bestCorner(0), 2);
        TicketCoincidences here = Check.townOf(new int[] {12, 0, 4, 0}, new int[] {21, 0, 4, 0});
        Check.asks("30 also that of now", here, () -> here.bestCorner(0), 4);
        TicketCoincidences none = Check.townOf(new int[] {12, 0, 4, 0}, new int[] {35, 1, 4, 0});
        Check.asks("30 no points anywhere", none, () -> none.bestCorner(1), 0);
    }

    private static void bestSwap() {
        TicketCoincidences town = new TicketCoincidences();
        Check.asks("31 nobody", town, town::bestSwap, -1);
        town.addStranger(12, 0, 0, 0);
        Check.asks("31 one", town, town::bestSwap, -1);
        town.addStranger(35, 1, 0, 0);
        Check.asks("31 two", town, town::bestSwap, -1);
        town.addStranger(21, 2, 1, 0);
        Check.asks("31 of 0, 2 and 1, 2 only one brings more", town, town::bestSwap, 102);
        town.addStranger(12, 3, 1, 0);
        // 12 35 | 21 12 has 7: any swap across leaves no more than that.
        Check.asks("31 none brings more", town, town::bestSwap, -1);
        TicketCoincidences even = Check.townOf(new int[] {60, 0, 0, 0}, new int[] {12, 1, 0, 0},
                new int[] {21, 2, 3, 0}, new int[] {85, 3, 3, 0});
        // 0 with 2 brings 12 and 21 together, 1 with 3 brings them together too.
        Check.asks("31 of several the smallest", even, even::bestSwap, 2);
        TicketCoincidences most = Check.townOf(new int[] {12, 0, 0, 0}, new int[] {60, 1, 0, 0},
                new int[] {13, 2, 1, 0}, new int[] {21, 3, 2, 0});
        // 13 for 60 brings 3, 21 for 60 brings 7.
        Check.asks("31 the most", most, most::bestSwap, 103);
        most.draw(0, 12);
        Check.asks("31 whatever it costs", most, most::bestSwap, 103);
        most.swapTickets(1, 3);
        Check.asks("31 with nothing left", most, most::bestSwap, -1);
        // Behind the next walk all would stand apart.
        TicketCoincidences walking = Check.townOf(new int[] {12, 0, 0, 1}, new int[] {60, 1, 0, 2},
                new int[] {21, 2, 4, 0});
        Check.asks("31 the town of now", walking, walking::bestSwap, 102);
        // Behind the next walk 12 and 21 would be together: that is no reason not to bring them together now.
        TicketCoincidences meeting = Check.townOf(new int[] {12, 0, 0, 1}, new int[] {60, 1, 0, 0},
                new int[] {21, 2, 1, 0});
        Check.asks("31 more than now", meeting, meeting::bestSwap, 102);
    }

    private static void bestTicket() {
        TicketCoincidences alone = Check.townOf(new int[] {12, 0, 4, 0}, new int[] {21, 0, 3, 0});
        Check.asks("32 alone at the corner", alone, () -> alone.bestTicket(0), 0);
        TicketCoincidences mirror = Check.townOf(new int[] {50, 0, 4, 0}, new int[] {12, 1, 4, 0});
        // With 12: 21 has 7, no other more.
        Check.asks("32 the mirrored one", mirror, () -> mirror.bestTicket(0), 21);
        TicketCoincidences same = Check.townOf(new int[] {50, 0, 4, 0}, new int[] {11, 1, 4, 0});
        Check.asks("32 the same figures", same, () -> same.bestTicket(0), 11);
        TicketCoincidences several = Check.townOf(new int[] {50, 0, 4, 0}, new int[] {98, 1, 4, 0},
                new int[] {12, 1, 4, 0});
        // 21 has 7 with 12, 89 has 7 with 98, and none has more with both.
        Check.asks("32 of several the smallest", several, () -> several.bestTicket(0), 21);
        TicketCoincidences last = Check.townOf(new int[] {50, 0, 4, 0}, new int[] {99, 1, 4, 0});
        Check.asks("32 up to 99", last, () -> last.bestTicket(0), 99);
        last.draw(0, 99);
        Check.asks("32 also that of now", last, () -> last.bestTicket(0), 99);
    }

    private static void noSuchStranger() {
        TicketCoincidences town = Check.townOf(new int[] {1, 0, 0, 0}, new int[] {2, 0, 3, 0});
        int[] wrong = {-1, 2, 12, Integer.MAX_VALUE, Integer.MIN_VALUE};
        for (int s : wrong) {
            Check.refused("30 stranger " + s, town, Check.NO_SUCH, () -> town.bestCorner(s));
            Check.refused("32 stranger " + s, town, Check.NO_SUCH, () -> town.bestTicket(s));
        }
        TicketCoincidences empty = new TicketCoincidences();
        Check.refused("30 nobody", empty, Check.NO_SUCH, () -> empty.bestCorner(0));
        Check.refused("32 nobody", empty, Check.NO_SUCH, () -> empty.bestTicket(0));
    }

    private static void meanLuck() {
        TicketCoincidences town = new TicketCoincidences();
        Check.asks("33 nobody", town, town::meanLuck, 0.0);
        town.addStranger(12, 0, 0, 0);
        Check.asks("33 one", town, town::meanLuck, 0.0);
        town.addStranger(21, 1, 0, 0);
        Check.asks("33 two", town, town::meanLuck, 7.0);
        town.addStranger(60, 2, 3, 0);
        Check.asks("33 three", town, town::meanLuck, 14.0 / 3.0);
    }

    private static void digestOfANewObject() {
        long[] numbers = {0, 0, 20, 0, 0, 0, -1, 1, -1, 0, 0, 0, 0, 0, 0, 0, 0, 0, 0, 0, 0};
        Check.due("34 new", new TicketCoincidences().digest(), folded(numbers));
    }

    private static void digestOfATown() {
        TicketCoincidences town = Check.townOf(new int[] {12, 0, 5, 1}, new int[] {21, 3, 5, 2});
        town.pass(1);
        town.pass(5);
        town.move(0, 4);
        // They part, and meet at 5 behind 6 hours: 5 * 4 + 5 more in the store, 7 counted; then 0 goes to 4.
        long[] numbers = {
            2, 6, 43, 7, 2, 0, 1, 5, -1,
            0, 0, 0, 0, 0, 0, 0, 0, 1, 0, 1, 0,
            12, 0, 4, 1, 0, 5,
            21, 3, 5, 2, 0, 4,
        };
        Check.due("34 behind some calls", town.digest(), folded(numbers));
    }

    private static long folded(long[] numbers) {
        long d = 1979;
        for (long x : numbers) {
            d = d * 31 + x;
        }
        return d;
    }
}
