/** The edges of promises 4 to 8: move, swapUmbrellas, swapTickets, draw, pass; one test for each sentence that names one. */
public final class MachineEdgesTest {
    public static void main(String[] args) {
        moveNoSuchStranger();
        moveCorners();
        moveStandsThere();
        moveTheShorterWayRound();
        moveCostsTooMuch();
        moveExceptionsInOrder();
        moveOfTheLastOfTwelve();
        swapUmbrellasNoSuchStranger();
        swapUmbrellasBothTheSame();
        swapUmbrellasNotAtOneCorner();
        swapUmbrellasCostsTooMuch();
        swapUmbrellasExceptionsInOrder();
        swapUmbrellasOfOneColour();
        swapUmbrellasOfTwelve();
        swapTicketsNoSuchStranger();
        swapTicketsBothTheSame();
        swapTicketsCostsTooMuch();
        swapTicketsExceptionsInOrder();
        swapTicketsWhereverTheyStand();
        swapTicketsMoreFewerOrAsMany();
        swapTicketsOfTwelve();
        drawNoSuchStranger();
        drawTickets();
        drawCostsTooMuch();
        drawExceptionsInOrder();
        drawTheSameTicket();
        drawReturnsTheOneBefore();
        passHours();
        passWithNobodyAndWithTwelve();
        passStoreAtMostHundred();
        passManyHoursAsOneByOne();
        passReturnsOnlyTheseHours();
        Check.end();
    }

    private static void moveNoSuchStranger() {
        Edges.noSuchStranger("4", (t, s) -> t.move(s, 3));
    }

    private static void moveCorners() {
        for (int from = 0; from < 6; from++) {
            for (int to = 0; to < 6; to++) {
                TicketCoincidences town = Check.townOf(new int[] {1, 1, from, 3});
                if (from != to) {
                    town.move(0, to);
                }
                Check.due("4 corner from " + from + " to " + to, town.cornerOf(0), to);
            }
            int[] stranger = {1, 1, from, 3};
            Edges.outside("4 from " + from + " to corner", 0, 5, Check.NOT_ALLOWED, () -> Check.townOf(stranger),
                    (t, x) -> t.move(0, x));
        }
    }

    private static void moveStandsThere() {
        for (int corner = 0; corner < 6; corner++) {
            int here = corner;
            Edges.refused("4 stands at " + here, Check.townOf(new int[] {1, 1, here, 3}), Check.NOT_NOW,
                    t -> t.move(0, here));
        }
        Edges.refused("4 the last of twelve stands there", Edges.full(), Check.NOT_NOW, t -> t.move(11, 0));
        // Behind an hour this one stands at another corner.
        TicketCoincidences walked = Check.townOf(new int[] {1, 1, 5, 1});
        walked.pass(1);
        Edges.refused("4 walked there", walked, Check.NOT_NOW, t -> t.move(0, 0));
        Check.due("4 back to where it was", walked.move(0, 5), 2);
    }

    private static void moveTheShorterWayRound() {
        int[][] ways = {{5, 0, 2}, {0, 5, 2}, {4, 0, 4}, {0, 4, 4}, {5, 1, 4}, {1, 5, 4},
            {0, 3, 6}, {3, 0, 6}, {5, 2, 6}, {2, 5, 6}, {0, 1, 2}, {5, 4, 2}, {0, 2, 4}, {5, 3, 4}};
        for (int[] w : ways) {
            TicketCoincidences town = Check.townOf(new int[] {1, 1, w[0], 3});
            String what = "4 from " + w[0] + " to " + w[1];
            Check.due(what, town.move(0, w[1]), w[2]);
            Check.due(what + ", store", town.store(), 20 - w[2]);
            Check.due(what + ", spent", town.spent(), w[2]);
        }
    }

    private static void moveCostsTooMuch() {
        Edges.costsTooMuch("4 to 1", 2, t -> t.move(0, 1));
        Edges.costsTooMuch("4 to 5", 2, t -> t.move(0, 5));
        Edges.costsTooMuch("4 to 2", 4, t -> t.move(0, 2));
        Edges.costsTooMuch("4 to 4", 4, t -> t.move(0, 4));
        Edges.costsTooMuch("4 to 3", 6, t -> t.move(0, 3));
    }

    private static void moveExceptionsInOrder() {
        Edges.outside("4 nobody, corner", 0, 5, Check.NO_SUCH, TicketCoincidences::new, (t, x) -> t.move(0, x));
        Edges.outside("4 stranger 12, corner", 0, 5, Check.NO_SUCH, Edges::full, (t, x) -> t.move(12, x));
        Edges.outside("4 empty store, corner", 0, 5, Check.NOT_ALLOWED, () -> Edges.withStore(0),
                (t, x) -> t.move(0, x));
        Edges.refused("4 empty store, stranger 3", Edges.withStore(0), Check.NO_SUCH, t -> t.move(3, 1));
        Edges.refused("4 empty store, stands there", Edges.withStore(0), Check.NOT_NOW, t -> t.move(0, 0));
    }

    private static void moveOfTheLastOfTwelve() {
        TicketCoincidences town = Edges.full();
        Check.due("4 the last of twelve", town.move(11, 4), 4);
        for (int i = 0; i < 12; i++) {
            Check.due("4 corner of " + i, town.cornerOf(i), i == 11 ? 4 : 0);
        }
    }

    private static void swapUmbrellasNoSuchStranger() {
        Edges.noSuchPair("5", (t, a, b) -> t.swapUmbrellas(a, b));
    }

    private static void swapUmbrellasBothTheSame() {
        Edges.bothTheSame("5", (t, a, b) -> t.swapUmbrellas(a, b));
    }

    private static void swapUmbrellasNotAtOneCorner() {
        for (int corner = 0; corner < 6; corner++) {
            for (int other = 0; other < 6; other++) {
                TicketCoincidences town = Check.townOf(new int[] {12, 0, corner, 0}, new int[] {21, 1, other, 0});
                if (corner == other) {
                    Edges.taken("5 at " + corner, town, t -> t.swapUmbrellas(0, 1));
                } else {
                    Edges.refused("5 at " + corner + " and " + other, town, Check.NOT_NOW,
                            t -> t.swapUmbrellas(0, 1));
                }
            }
        }
        TicketCoincidences meeting = Check.townOf(new int[] {12, 0, 5, 1}, new int[] {21, 1, 0, 0});
        Edges.refused("5 not before they meet", meeting, Check.NOT_NOW, t -> t.swapUmbrellas(1, 0));
        meeting.pass(1);
        Edges.taken("5 where they meet", meeting, t -> t.swapUmbrellas(1, 0));
        meeting.pass(1);
        Edges.refused("5 not behind it", meeting, Check.NOT_NOW, t -> t.swapUmbrellas(1, 0));
    }

    private static void swapUmbrellasCostsTooMuch() {
        Edges.costsTooMuch("5", 3, t -> t.swapUmbrellas(0, 1));
        Edges.costsTooMuch("5 turned", 3, t -> t.swapUmbrellas(1, 0));
    }

    private static void swapUmbrellasExceptionsInOrder() {
        Edges.refused("5 empty store, no such, the same", Edges.withStore(0), Check.NO_SUCH,
                t -> t.swapUmbrellas(3, 3));
        Edges.refused("5 empty store, no such b", Edges.withStore(0), Check.NO_SUCH, t -> t.swapUmbrellas(0, 3));
        Edges.refused("5 empty store, the same", Edges.withStore(0), Check.NOT_ALLOWED, t -> t.swapUmbrellas(2, 2));
        Edges.refused("5 empty store, apart", Edges.withStore(0), Check.NOT_NOW, t -> t.swapUmbrellas(0, 2));
    }

    private static void swapUmbrellasOfOneColour() {
        TicketCoincidences town = Edges.withStore(20);
        Check.due("5 one colour, as many", town.swapUmbrellas(0, 1), 0);
        Check.due("5 one colour, store", town.store(), 17);
        Check.due("5 one colour, spent", town.spent(), 3);
        Check.due("5 one colour, colour of 0", town.colourOf(0), 0);
        Check.due("5 one colour, colour of 1", town.colourOf(1), 0);
    }

    private static void swapUmbrellasOfTwelve() {
        TicketCoincidences town = Edges.full();
        int before = town.coincidences();
        // Colours of crowd: i % 5. The last one's is 1.
        Check.due("5 of twelve, as many", town.swapUmbrellas(0, 11), 0);
        Check.due("5 of twelve, the town", town.coincidences(), before);
        for (int i = 0; i < 12; i++) {
            int due = i == 0 ? 1 : i == 11 ? 0 : i % 5;
            Check.due("5 of twelve, colour of " + i, town.colourOf(i), due);
            Check.due("5 of twelve, ticket of " + i, town.ticketOf(i), i * 37 % 100);
        }
    }

    private static void swapTicketsNoSuchStranger() {
        Edges.noSuchPair("6", (t, a, b) -> t.swapTickets(a, b));
    }

    private static void swapTicketsBothTheSame() {
        Edges.bothTheSame("6", (t, a, b) -> t.swapTickets(a, b));
    }

    private static void swapTicketsCostsTooMuch() {
        Edges.costsTooMuch("6", 8, t -> t.swapTickets(0, 1));
        Edges.costsTooMuch("6 apart", 8, t -> t.swapTickets(2, 0));
    }

    private static void swapTicketsExceptionsInOrder() {
        Edges.refused("6 empty store, no such, the same", Edges.withStore(0), Check.NO_SUCH, t -> t.swapTickets(3, 3));
        Edges.refused("6 empty store, no such b", Edges.withStore(0), Check.NO_SUCH, t -> t.swapTickets(0, -1));
        Edges.refused("6 empty store, the same", Edges.withStore(0), Check.NOT_ALLOWED, t -> t.swapTickets(2, 2));
    }

    private static void swapTicketsWhereverTheyStand() {
        for (int corner = 0; corner < 6; corner++) {
            for (int other = 0; other < 6; other++) {
                TicketCoincidences town = Check.townOf(new int[] {0, 0, corner, 0}, new int[] {99, 4, other, 5});
                String what = "6 at " + corner + " and " + other;
                Check.due(what, town.swapTickets(0, 1), 0);
                Check.due(what + ", ticket of 0", town.ticketOf(0), 99);
                Check.due(what + ", ticket of 1", town.ticketOf(1), 0);
                Check.due(what + ", colour of 0", town.colourOf(0), 0);
                Check.due(what + ", corner of 1", town.cornerOf(1), other);
                Check.due(what + ", walk of 1", town.walkOf(1), 5);
            }
        }
    }

    private static void swapTicketsMoreFewerOrAsMany() {
        // The least that is more, 1: 12 and 42 end with the same figure.
        TicketCoincidences town = Check.townOf(new int[] {12, 0, 0, 0}, new int[] {50, 1, 0, 0},
                new int[] {42, 2, 5, 0});
        Check.due("6 1 more", town.swapTickets(1, 2), 1);
        Check.due("6 1 fewer", town.swapTickets(2, 1), -1);
        TicketCoincidences even = Check.townOf(new int[] {12, 0, 0, 0}, new int[] {21, 1, 0, 0},
                new int[] {12, 2, 5, 0});
        Check.due("6 the same ticket, as many", even.swapTickets(0, 2), 0);
        Check.due("6 of two at one corner, as many", even.swapTickets(0, 1), 0);
        Check.due("6 costs as much", even.store(), 4);
        Check.due("6 all is spent", even.spent(), 16);
    }

    private static void swapTicketsOfTwelve() {
        TicketCoincidences town = new TicketCoincidences();
        town.addStranger(50, 0, 0, 0);
        for (int i = 1; i < 11; i++) {
            town.addStranger(11, 1, 0, 0);
        }
        town.addStranger(11, 2, 5, 0);
        // 10 pairs of 8 points more; 11 and 50 have nothing in common.
        Check.due("6 the first and the last of twelve", town.swapTickets(0, 11), 80);
        Check.due("6 back", town.swapTickets(11, 0), -80);
        Check.due("6 ticket of 0", town.ticketOf(0), 50);
        Check.due("6 ticket of 11", town.ticketOf(11), 11);
    }

    private static void drawNoSuchStranger() {
        Edges.noSuchStranger("7", (t, s) -> t.draw(s, 99));
    }

    private static void drawTickets() {
        Edges.range("7 ticket", 0, 99, Check.NOT_ALLOWED, () -> Edges.crowd(1), (t, x) -> {
            t.draw(0, x);
            return t.ticketOf(0);
        });
        Edges.range("7 ticket of the last", 0, 99, Check.NOT_ALLOWED, Edges::full, (t, x) -> {
            t.draw(11, x);
            return t.ticketOf(11);
        });
    }

    private static void drawCostsTooMuch() {
        Edges.costsTooMuch("7", 12, t -> t.draw(0, 99));
        Edges.costsTooMuch("7 the same ticket", 12, t -> t.draw(0, 12));
    }

    private static void drawExceptionsInOrder() {
        Edges.outside("7 nobody, ticket", 0, 99, Check.NO_SUCH, TicketCoincidences::new, (t, x) -> t.draw(0, x));
        Edges.outside("7 stranger 12, ticket", 0, 99, Check.NO_SUCH, Edges::full, (t, x) -> t.draw(12, x));
        Edges.outside("7 empty store, ticket", 0, 99, Check.NOT_ALLOWED, () -> Edges.withStore(0),
                (t, x) -> t.draw(0, x));
        Edges.refused("7 empty store, stranger 3", Edges.withStore(0), Check.NO_SUCH, t -> t.draw(3, 5));
    }

    private static void drawTheSameTicket() {
        TicketCoincidences town = Check.townOf(new int[] {99, 0, 0, 0});
        Check.due("7 the same again", town.draw(0, 99), 99);
        Check.due("7 the same again, store", town.store(), 8);
        Check.due("7 the same again, spent", town.spent(), 12);
    }

    private static void drawReturnsTheOneBefore() {
        for (int before = 0; before <= 99; before++) {
            TicketCoincidences town = Check.townOf(new int[] {50, 0, 0, 0}, new int[] {before, 0, 0, 0});
            Check.due("7 the one before", town.draw(1, 0), before);
            Check.due("7 of the other one", town.ticketOf(0), 50);
        }
    }

    private static Object hoursPassed(TicketCoincidences town, int hours) {
        town.pass(hours);
        return town.hour();
    }

    private static void passHours() {
        Edges.range("8 hours, nobody there", 1, 60, Check.NOT_ALLOWED, TicketCoincidences::new,
                MachineEdgesTest::hoursPassed);
        Edges.range("8 hours, twelve there", 1, 60, Check.NOT_ALLOWED, Edges::full, MachineEdgesTest::hoursPassed);
        Edges.refused("8 hours -1", Edges.full(), Check.NOT_ALLOWED, t -> t.pass(-1));
    }

    private static void passWithNobodyAndWithTwelve() {
        TicketCoincidences empty = new TicketCoincidences();
        Check.due("8 nobody, counted", empty.pass(1), 0);
        Check.due("8 nobody, store", empty.store(), 26);
        Check.due("8 nobody, hour", empty.hour(), 1);
        TicketCoincidences twelve = Edges.twelveAlike(5);
        Check.due("8 twelve, counted", twelve.pass(1), 660);
        Check.due("8 twelve, store", twelve.store(), 25);
        for (int i = 0; i < 12; i++) {
            Check.due("8 twelve, from 5 on to 0", twelve.cornerOf(i), 0);
        }
        Check.due("8 twelve, counted in 60", twelve.pass(60), 39600);
        Check.due("8 twelve, counted in all", twelve.counted(), 40260);
    }

    private static TicketCoincidences withEmptyCorners(int empty) {
        TicketCoincidences town = new TicketCoincidences();
        for (int corner = empty; corner < 6; corner++) {
            town.addStranger(corner, 0, corner, 0);
        }
        return town;
    }

    private static void passStoreAtMostHundred() {
        for (int empty = 0; empty <= 6; empty++) {
            TicketCoincidences town = withEmptyCorners(empty);
            for (int hour = 1; hour <= 90; hour++) {
                town.pass(1);
                int due = 20 + empty * hour;
                Check.due("8 empty corners " + empty + ", store", town.store(), due > 100 ? 100 : due);
            }
            TicketCoincidences atOnce = withEmptyCorners(empty);
            atOnce.pass(60);
            int due = 20 + empty * 60;
            Check.due("8 empty corners " + empty + ", store at once", atOnce.store(), due > 100 ? 100 : due);
        }
        TicketCoincidences spending = withEmptyCorners(5);
        spending.pass(60);
        spending.move(0, 4);
        spending.pass(1);
        Check.due("8 from 98 by 5 to 100", spending.store(), 100);
        spending.move(0, 2);
        spending.pass(1);
        Check.due("8 from 96 by 5 to 100", spending.store(), 100);
        spending.move(0, 5);
        Check.due("8 from 100 down to 94", spending.store(), 94);
        spending.pass(1);
        Check.due("8 from 94 by 5 to 99", spending.store(), 99);
    }

    private static void passManyHoursAsOneByOne() {
        for (int hours = 1; hours <= 60; hours++) {
            TicketCoincidences atOnce = Edges.full();
            TicketCoincidences oneByOne = Edges.full();
            int sum = 0;
            for (int i = 0; i < hours; i++) {
                sum += oneByOne.pass(1);
            }
            Check.due("8 counted in " + hours, atOnce.pass(hours), sum);
            Check.due("8 the town behind " + hours, Edges.told(atOnce), Edges.told(oneByOne));
        }
    }

    private static void passReturnsOnlyTheseHours() {
        TicketCoincidences town = Edges.twelveAlike(0);
        town.pass(60);
        Check.due("8 only these", town.pass(2), 1320);
        Check.due("8 all", town.counted(), 40920);
    }
}
