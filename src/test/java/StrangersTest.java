/** Promises 1 to 3: a new object, addStranger, setWalk. */
public final class StrangersTest {
    public static void main(String[] args) {
        aNewObject();
        addStranger();
        addStrangerRefuses();
        addStrangerRefusesTheThirteenth();
        setWalk();
        setWalkRefuses();
        Check.end();
    }

    private static void aNewObject() {
        TicketCoincidences town = new TicketCoincidences();
        Check.due("1 strangers", town.strangers(), 0);
        Check.due("1 hour", town.hour(), 0);
        Check.due("1 store", town.store(), 20);
        Check.due("1 counted", town.counted(), 0);
        Check.due("1 spent", town.spent(), 0);
        for (int corner = 0; corner < 6; corner++) {
            Check.due("1 peopleAt " + corner, town.peopleAt(corner), 0);
        }
        town.addStranger(1, 1, 1, 1);
        Check.due("1 another object is another town", new TicketCoincidences().strangers(), 0);
    }

    private static void addStranger() {
        TicketCoincidences town = new TicketCoincidences();
        Check.due("2 first", town.addStranger(0, 0, 0, 0), 0);
        Check.due("2 second", town.addStranger(99, 4, 5, 5), 1);
        Check.due("2 third", town.addStranger(7, 2, 3, 1), 2);
        Check.due("2 strangers", town.strangers(), 3);
        Check.due("2 store", town.store(), 20);
        Check.due("2 ticket 0", town.ticketOf(0), 0);
        Check.due("2 ticket 1", town.ticketOf(1), 99);
        Check.due("2 ticket 2", town.ticketOf(2), 7);
        Check.due("2 colour 1", town.colourOf(1), 4);
        Check.due("2 corner 1", town.cornerOf(1), 5);
        Check.due("2 walk 1", town.walkOf(1), 5);
        Check.due("2 colour 2", town.colourOf(2), 2);
        Check.due("2 corner 2", town.cornerOf(2), 3);
        Check.due("2 walk 2", town.walkOf(2), 1);
    }

    private static void addStrangerRefuses() {
        TicketCoincidences town = new TicketCoincidences();
        int[][] wrong = {
            {-1, 0, 0, 0}, {100, 0, 0, 0}, {Integer.MIN_VALUE, 0, 0, 0}, {Integer.MAX_VALUE, 0, 0, 0},
            {0, -1, 0, 0}, {0, 5, 0, 0}, {0, 0, -1, 0}, {0, 0, 6, 0}, {0, 0, 0, -1}, {0, 0, 0, 6},
        };
        for (int[] w : wrong) {
            Check.refused("2 wrong " + java.util.Arrays.toString(w), town, Check.NOT_ALLOWED,
                    () -> town.addStranger(w[0], w[1], w[2], w[3]));
        }
        Check.due("2 nobody was added", town.strangers(), 0);
    }

    private static void addStrangerRefusesTheThirteenth() {
        TicketCoincidences town = new TicketCoincidences();
        for (int i = 0; i < 12; i++) {
            Check.due("2 number", town.addStranger(i, i % 5, i % 6, i % 6), i);
        }
        Check.refused("2 thirteenth", town, Check.NOT_NOW, () -> town.addStranger(1, 1, 1, 1));
        Check.refused("2 thirteenth, wrong too", town, Check.NOT_ALLOWED, () -> town.addStranger(100, 1, 1, 1));
        Check.refused("2 thirteenth, wrong walk", town, Check.NOT_ALLOWED, () -> town.addStranger(1, 1, 1, 6));
        Check.due("2 strangers", town.strangers(), 12);
    }

    private static void setWalk() {
        TicketCoincidences town = new TicketCoincidences();
        town.addStranger(12, 0, 0, 1);
        town.addStranger(13, 0, 0, 2);
        Check.due("3 before", town.setWalk(1, 5), 2);
        Check.due("3 then", town.setWalk(1, 0), 5);
        Check.due("3 walk 1", town.walkOf(1), 0);
        Check.due("3 walk 0 is as it was", town.walkOf(0), 1);
        Check.due("3 costs nothing", town.store(), 20);
        town.pass(1);
        Check.due("3 walks on by 1", town.cornerOf(0), 1);
        Check.due("3 stays", town.cornerOf(1), 0);
    }

    private static void setWalkRefuses() {
        TicketCoincidences town = new TicketCoincidences();
        Check.refused("3 nobody there", town, Check.NO_SUCH, () -> town.setWalk(0, 1));
        town.addStranger(12, 0, 0, 1);
        Check.refused("3 stranger -1", town, Check.NO_SUCH, () -> town.setWalk(-1, 1));
        Check.refused("3 stranger 1", town, Check.NO_SUCH, () -> town.setWalk(1, 1));
        Check.refused("3 stranger first", town, Check.NO_SUCH, () -> town.setWalk(1, 6));
        Check.refused("3 walk -1", town, Check.NOT_ALLOWED, () -> town.setWalk(0, -1));
        Check.refused("3 walk 6", town, Check.NOT_ALLOWED, () -> town.setWalk(0, 6));
    }
}
