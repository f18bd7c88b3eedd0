/** Promises 4 to 8: move, swapUmbrellas, swapTickets, draw, pass. */
public final class MachineTest {
    public static void main(String[] args) {
        moveCosts();
        moveRefuses();
        swapUmbrellas();
        swapUmbrellasRefuses();
        swapTickets();
        swapTicketsRefuses();
        draw();
        drawRefuses();
        passOneHour();
        passManyHours();
        passFillsTheStore();
        passWithTwelve();
        passRefuses();
        Check.end();
    }

    private static void moveCosts() {
        for (int from = 0; from < 6; from++) {
            int[] costs = {0, 2, 4, 6, 4, 2};
            for (int on = 1; on < 6; on++) {
                int to = (from + on) % 6;
                TicketCoincidences town = Check.townOf(new int[] {1, 1, from, 3});
                Check.due("4 from " + from + " to " + to, town.move(0, to), costs[on]);
                Check.due("4 corner", town.cornerOf(0), to);
                Check.due("4 walk", town.walkOf(0), 3);
                Check.due("4 store", town.store(), 20 - costs[on]);
                Check.due("4 spent", town.spent(), costs[on]);
                Check.due("4 hour", town.hour(), 0);
            }
        }
    }

    private static void moveRefuses() {
        TicketCoincidences town = Check.townOf(new int[] {1, 1, 0, 0});
        Check.refused("4 stranger -1", town, Check.NO_SUCH, () -> town.move(-1, 1));
        Check.refused("4 stranger 1", town, Check.NO_SUCH, () -> town.move(1, 9));
        Check.refused("4 corner -1", town, Check.NOT_ALLOWED, () -> town.move(0, -1));
        Check.refused("4 corner 6", town, Check.NOT_ALLOWED, () -> town.move(0, 6));
        Check.refused("4 stands there", town, Check.NOT_NOW, () -> town.move(0, 0));
        town.move(0, 3);
        town.move(0, 0);
        town.move(0, 3);
        Check.due("4 store is 2", town.store(), 2);
        Check.refused("4 costs 4", town, Check.NOT_NOW, () -> town.move(0, 1));
        Check.refused("4 wrong corner, store or not", town, Check.NOT_ALLOWED, () -> town.move(0, 6));
        Check.due("4 the last 2 are spent", town.move(0, 4), 2);
        Check.due("4 store is 0", town.store(), 0);
        Check.due("4 spent", town.spent(), 20);
        Check.refused("4 nothing left", town, Check.NOT_NOW, () -> town.move(0, 5));
    }

    private static void swapUmbrellas() {
        TicketCoincidences town = Check.townOf(new int[] {12, 0, 2, 0}, new int[] {21, 1, 2, 0},
                new int[] {40, 1, 2, 0}, new int[] {77, 0, 3, 0});
        Check.due("5 luck before", town.luckOf(0), 7);
        // The umbrellas of one corner stay there, so their points there stay the same.
        Check.due("5 no more than before", town.swapUmbrellas(0, 1), 0);
        Check.due("5 colour 0", town.colourOf(0), 1);
        Check.due("5 colour 1", town.colourOf(1), 0);
        Check.due("5 ticket 0", town.ticketOf(0), 12);
        Check.due("5 luck behind", town.luckOf(0), 9);
        Check.due("5 store", town.store(), 17);
        Check.due("5 spent", town.spent(), 3);
        // Behind the next walk, the third would stand with the first.
        TicketCoincidences walking = Check.townOf(new int[] {12, 0, 2, 0}, new int[] {35, 1, 2, 3},
                new int[] {60, 1, 1, 1});
        Check.due("5 no more now", walking.swapUmbrellas(0, 1), 0);
        Check.due("5 nor then", walking.swapUmbrellas(0, 1), 0);
    }

    private static void swapUmbrellasRefuses() {
        TicketCoincidences town = Check.townOf(new int[] {12, 0, 2, 0}, new int[] {21, 1, 2, 0},
                new int[] {40, 1, 3, 0});
        Check.refused("5 a -1", town, Check.NO_SUCH, () -> town.swapUmbrellas(-1, 0));
        Check.refused("5 b 3", town, Check.NO_SUCH, () -> town.swapUmbrellas(0, 3));
        Check.refused("5 none such, and the same", town, Check.NO_SUCH, () -> town.swapUmbrellas(3, 3));
        Check.refused("5 the same", town, Check.NOT_ALLOWED, () -> town.swapUmbrellas(1, 1));
        Check.refused("5 not at one corner", town, Check.NOT_NOW, () -> town.swapUmbrellas(1, 2));
        for (int i = 0; i < 6; i++) {
            Check.due("5 no more", town.swapUmbrellas(1, 0), 0);
        }
        Check.due("5 store is 2", town.store(), 2);
        Check.refused("5 costs too much", town, Check.NOT_NOW, () -> town.swapUmbrellas(0, 1));
        Check.refused("5 the same, store or not", town, Check.NOT_ALLOWED, () -> town.swapUmbrellas(0, 0));
        town.pass(1);
        Check.due("5 store is 6", town.store(), 6);
        town.swapUmbrellas(0, 1);
        town.swapUmbrellas(0, 1);
        Check.due("5 exactly what is there", town.store(), 0);
    }

    private static void swapTickets() {
        TicketCoincidences town = Check.townOf(new int[] {12, 0, 0, 0}, new int[] {50, 1, 0, 0},
                new int[] {21, 2, 4, 0});
        Check.due("6 nothing yet", town.coincidences(), 0);
        Check.due("6 more", town.swapTickets(2, 1), 7);
        Check.due("6 ticket 1", town.ticketOf(1), 21);
        Check.due("6 ticket 2", town.ticketOf(2), 50);
        Check.due("6 colour 1", town.colourOf(1), 1);
        Check.due("6 corner 1", town.cornerOf(1), 0);
        Check.due("6 store", town.store(), 12);
        Check.due("6 spent", town.spent(), 8);
        Check.due("6 fewer", town.swapTickets(0, 2), -7);
        Check.due("6 store then", town.store(), 4);
        Check.due("6 spent then", town.spent(), 16);
        // The town of now counts, not that behind the next walk: 12 and 21 walk to different corners.
        TicketCoincidences walking = Check.townOf(new int[] {12, 0, 0, 1}, new int[] {50, 1, 0, 2},
                new int[] {21, 2, 4, 0});
        Check.due("6 more now", walking.swapTickets(1, 2), 7);
        Check.due("6 fewer now", walking.swapTickets(1, 2), -7);
    }

    private static void swapTicketsRefuses() {
        TicketCoincidences town = Check.townOf(new int[] {12, 0, 0, 0}, new int[] {50, 1, 0, 0});
        Check.refused("6 a 2", town, Check.NO_SUCH, () -> town.swapTickets(2, 0));
        Check.refused("6 b -1", town, Check.NO_SUCH, () -> town.swapTickets(0, -1));
        Check.refused("6 none such, and the same", town, Check.NO_SUCH, () -> town.swapTickets(-1, -1));
        Check.refused("6 the same", town, Check.NOT_ALLOWED, () -> town.swapTickets(0, 0));
        town.swapTickets(0, 1);
        town.swapUmbrellas(0, 1);
        town.move(0, 1);
        Check.due("6 store is 7", town.store(), 7);
        Check.refused("6 costs too much", town, Check.NOT_NOW, () -> town.swapTickets(0, 1));
        Check.refused("6 the same, store or not", town, Check.NOT_ALLOWED, () -> town.swapTickets(1, 1));
        TicketCoincidences other = Check.townOf(new int[] {12, 0, 0, 0}, new int[] {50, 1, 3, 0});
        other.draw(0, 21);
        Check.due("6 store is 8", other.store(), 8);
        Check.due("6 wherever they stand", other.swapTickets(0, 1), 0);
        Check.due("6 exactly what is there", other.store(), 0);
        Check.due("6 ticket", other.ticketOf(1), 21);
    }

    private static void draw() {
        TicketCoincidences town = Check.townOf(new int[] {12, 0, 0, 0}, new int[] {50, 1, 0, 0});
        Check.due("7 the one before", town.draw(1, 99), 50);
        Check.due("7 ticket 1", town.ticketOf(1), 99);
        Check.due("7 ticket 0", town.ticketOf(0), 12);
        Check.due("7 store", town.store(), 8);
        Check.due("7 spent", town.spent(), 12);
        TicketCoincidences other = Check.townOf(new int[] {12, 0, 0, 0});
        Check.due("7 the same ticket again", other.draw(0, 12), 12);
        Check.due("7 costs 12 too", other.store(), 8);
    }

    private static void drawRefuses() {
        TicketCoincidences town = Check.townOf(new int[] {12, 0, 0, 0}, new int[] {50, 1, 0, 0});
        Check.refused("7 stranger 2", town, Check.NO_SUCH, () -> town.draw(2, 100));
        Check.refused("7 stranger -1", town, Check.NO_SUCH, () -> town.draw(-1, 5));
        Check.refused("7 ticket -1", town, Check.NOT_ALLOWED, () -> town.draw(0, -1));
        Check.refused("7 ticket 100", town, Check.NOT_ALLOWED, () -> town.draw(0, 100));
        town.swapTickets(0, 1);
        Check.due("7 exactly 12", town.draw(0, 0), 50);
        Check.due("7 store is 0", town.store(), 0);
        TicketCoincidences other = Check.townOf(new int[] {12, 0, 0, 0}, new int[] {50, 1, 0, 0});
        other.swapUmbrellas(0, 1);
        other.swapUmbrellas(0, 1);
        other.swapUmbrellas(0, 1);
        Check.due("7 store is 11", other.store(), 11);
        Check.refused("7 costs too much", other, Check.NOT_NOW, () -> other.draw(0, 5));
        Check.refused("7 wrong ticket, store or not", other, Check.NOT_ALLOWED, () -> other.draw(0, 100));
    }

    private static void passOneHour() {
        TicketCoincidences town = Check.townOf(new int[] {12, 0, 5, 1}, new int[] {21, 1, 0, 0},
                new int[] {40, 1, 4, 5}, new int[] {41, 2, 0, 3});
        // Behind the walk, 12 and 21 are at 0 (7 points), 40 and 41 at 3 (3 points).
        Check.due("8 counted", town.pass(1), 10);
        Check.due("8 corner 0", town.cornerOf(0), 0);
        Check.due("8 corner 1", town.cornerOf(1), 0);
        Check.due("8 corner 2", town.cornerOf(2), 3);
        Check.due("8 corner 3", town.cornerOf(3), 3);
        Check.due("8 hour", town.hour(), 1);
        Check.due("8 store", town.store(), 24);
        Check.due("8 counted in all", town.counted(), 10);
        Check.due("8 spent", town.spent(), 0);
    }

    private static void passManyHours() {
        TicketCoincidences town = Check.townOf(new int[] {12, 0, 0, 1}, new int[] {21, 0, 0, 2});
        // They meet behind 6 and 12 hours; else 4 corners are empty, then 5.
        Check.due("8 counted in 5", town.pass(5), 0);
        Check.due("8 store behind 5", town.store(), 40);
        Check.due("8 counted in 8 more", town.pass(8), 18);
        Check.due("8 store behind 13", town.store(), 74);
        Check.due("8 hour", town.hour(), 13);
        Check.due("8 only these hours", town.pass(5), 9);
        Check.due("8 counted in all", town.counted(), 27);
        Check.due("8 hour then", town.hour(), 18);
    }

    private static void passFillsTheStore() {
        TicketCoincidences town = new TicketCoincidences();
        Check.due("8 nobody there", town.pass(13), 0);
        Check.due("8 store is 98", town.store(), 98);
        town.pass(1);
        Check.due("8 at most 100", town.store(), 100);
        Check.due("8 sixty hours", town.pass(60), 0);
        Check.due("8 still 100", town.store(), 100);
        Check.due("8 hour", town.hour(), 74);
    }

    private static void passWithTwelve() {
        TicketCoincidences town = new TicketCoincidences();
        for (int i = 0; i < 12; i++) {
            town.addStranger(11, 3, 5, 2);
        }
        // 66 pairs of 10 points each.
        Check.due("8 twelve, behind 60 hours", town.pass(60), 39600);
        for (int i = 0; i < 12; i++) {
            Check.due("8 corner " + i, town.cornerOf(i), 5);
        }
        Check.due("8 coincidences of twelve", town.coincidences(), 660);
        Check.due("8 store", town.store(), 100);
    }

    private static void passRefuses() {
        TicketCoincidences town = Check.townOf(new int[] {12, 0, 0, 1});
        int[] wrong = {0, -1, 61, Integer.MAX_VALUE, Integer.MIN_VALUE};
        for (int hours : wrong) {
            Check.refused("8 hours " + hours, town, Check.NOT_ALLOWED, () -> town.pass(hours));
        }
        town.pass(60);
        Check.due("8 hour", town.hour(), 60);
    }
}
