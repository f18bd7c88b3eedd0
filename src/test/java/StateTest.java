/** Promises 9 to 18: strangers, hour, store, counted, spent, ticketOf, colourOf, cornerOf, walkOf, peopleAt. */
public final class StateTest {
    public static void main(String[] args) {
        numbersOfTheTown();
        numbersOfStrangers();
        noSuchStranger();
        peopleAt();
        Check.end();
    }

    private static TicketCoincidences smallTown() {
        TicketCoincidences town = new TicketCoincidences();
        town.addStranger(12, 0, 0, 1);
        town.addStranger(21, 3, 0, 1);
        town.addStranger(7, 4, 5, 2);
        return town;
    }

    private static void numbersOfTheTown() {
        TicketCoincidences town = smallTown();
        Check.asks("9 strangers", town, town::strangers, 3);
        Check.asks("10 hour", town, town::hour, 0);
        Check.asks("11 store", town, town::store, 20);
        Check.asks("12 counted", town, town::counted, 0);
        Check.asks("13 spent", town, town::spent, 0);
        town.pass(2);
        town.move(0, 4);
        town.move(1, 1);
        // Behind 1 hour all three are at 1; behind 2 hours, two at 2 and one at 3.
        Check.asks("9 strangers then", town, town::strangers, 3);
        Check.asks("10 hour then", town, town::hour, 2);
        Check.asks("11 store then", town, town::store, 23);
        Check.asks("12 counted then", town, town::counted, 14);
        Check.asks("13 spent then", town, town::spent, 6);
    }

    private static void numbersOfStrangers() {
        TicketCoincidences town = smallTown();
        Check.asks("14 ticket 0", town, () -> town.ticketOf(0), 12);
        Check.asks("14 ticket 2", town, () -> town.ticketOf(2), 7);
        Check.asks("15 colour 1", town, () -> town.colourOf(1), 3);
        Check.asks("15 colour 2", town, () -> town.colourOf(2), 4);
        Check.asks("16 corner 0", town, () -> town.cornerOf(0), 0);
        Check.asks("16 corner 2", town, () -> town.cornerOf(2), 5);
        Check.asks("17 walk 0", town, () -> town.walkOf(0), 1);
        Check.asks("17 walk 2", town, () -> town.walkOf(2), 2);
        town.pass(1);
        Check.asks("16 from 5 on to 0 and 1", town, () -> town.cornerOf(2), 1);
        Check.asks("17 walk stays", town, () -> town.walkOf(2), 2);
    }

    private static void noSuchStranger() {
        TicketCoincidences town = smallTown();
        int[] wrong = {-1, 3, 12, Integer.MAX_VALUE, Integer.MIN_VALUE};
        for (int s : wrong) {
            refusedForAll(town, s);
        }
        refusedForAll(new TicketCoincidences(), 0);
    }

    private static void refusedForAll(TicketCoincidences town, int s) {
        Check.refused("14 stranger " + s, town, Check.NO_SUCH, () -> town.ticketOf(s));
        Check.refused("15 stranger " + s, town, Check.NO_SUCH, () -> town.colourOf(s));
        Check.refused("16 stranger " + s, town, Check.NO_SUCH, () -> town.cornerOf(s));
        Check.refused("17 stranger " + s, town, Check.NO_SUCH, () -> town.walkOf(s));
    }

    private static void peopleAt() {
        TicketCoincidences town = smallTown();
        int[] crowds = {2, 0, 0, 0, 0, 1};
        for (int corner = 0; corner < 6; corner++) {
            int here = corner;
            Check.asks("18 corner " + corner, town, () -> town.peopleAt(here), crowds[corner]);
        }
        int[] wrong = {-1, 6, Integer.MAX_VALUE, Integer.MIN_VALUE};
        for (int corner : wrong) {
            Check.refused("18 corner " + corner, town, Check.NO_SUCH, () -> town.peopleAt(corner));
        }
        town.move(2, 0);
        Check.due("18 all at one", town.peopleAt(0), 3);
        Check.due("18 nobody left", town.peopleAt(5), 0);
    }
}
