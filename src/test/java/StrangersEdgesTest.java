/** The edges of promises 1 to 3: a new object, addStranger, setWalk; one test for each sentence that names one. */
public final class StrangersEdgesTest {
    public static void main(String[] args) {
        aNewTownHasNoStrangers();
        aNewMachineStartsWithTwenty();
        aNewObjectSharesNothing();
        addStrangerTickets();
        addStrangerColours();
        addStrangerCorners();
        addStrangerWalks();
        addStrangerKeepsTheLeastAndTheGreatest();
        addStrangerNumbers();
        addStrangerRefusesTheThirteenth();
        addStrangerRefusesNumbersFirst();
        addStrangerIsForNothing();
        setWalkNoSuchStranger();
        setWalkWalks();
        setWalkOfTheLastOfTwelve();
        setWalkRefusesStrangersFirst();
        setWalkReturnsTheOneBefore();
        setWalkFromNowOn();
        Check.end();
    }

    private static void aNewTownHasNoStrangers() {
        TicketCoincidences town = new TicketCoincidences();
        Check.due("1 strangers", town.strangers(), 0);
        for (int corner = 0; corner < 6; corner++) {
            Check.due("1 people at " + corner, town.peopleAt(corner), 0);
            Check.due("1 coincidences at " + corner, town.coincidencesAt(corner), 0);
        }
        Check.due("1 coincidences", town.coincidences(), 0);
        Edges.refused("1 no stranger 0", town, Check.NO_SUCH, t -> t.ticketOf(0));
    }

    private static void aNewMachineStartsWithTwenty() {
        TicketCoincidences town = new TicketCoincidences();
        Check.due("1 hour", town.hour(), 0);
        Check.due("1 store", town.store(), 20);
        Check.due("1 counted", town.counted(), 0);
        Check.due("1 spent", town.spent(), 0);
    }

    private static void aNewObjectSharesNothing() {
        String fresh = Edges.told(new TicketCoincidences());
        TicketCoincidences used = Edges.twelveAlike(2);
        used.pass(60);
        used.draw(11, 99);
        Check.due("1 beside a used one", Edges.told(new TicketCoincidences()), fresh);
        String before = Edges.told(used);
        Edges.full().pass(3);
        Check.due("1 a used one beside others", Edges.told(used), before);
    }

    private static void addStrangerTickets() {
        Edges.range("2 ticket", 0, 99, Check.NOT_ALLOWED, TicketCoincidences::new, (t, x) -> {
            t.addStranger(x, 0, 0, 0);
            return t.ticketOf(0);
        });
    }

    private static void addStrangerColours() {
        Edges.range("2 colour", 0, 4, Check.NOT_ALLOWED, TicketCoincidences::new, (t, x) -> {
            t.addStranger(0, x, 0, 0);
            return t.colourOf(0);
        });
    }

    private static void addStrangerCorners() {
        Edges.range("2 corner", 0, 5, Check.NOT_ALLOWED, TicketCoincidences::new, (t, x) -> {
            t.addStranger(0, 0, x, 0);
            return t.cornerOf(0);
        });
    }

    private static void addStrangerWalks() {
        Edges.range("2 walk", 0, 5, Check.NOT_ALLOWED, TicketCoincidences::new, (t, x) -> {
            t.addStranger(0, 0, 0, x);
            return t.walkOf(0);
        });
    }

    private static void addStrangerKeepsTheLeastAndTheGreatest() {
        TicketCoincidences town = Check.townOf(new int[] {0, 0, 0, 0}, new int[] {99, 4, 5, 5});
        int[] due = {0, 0, 0, 0, 99, 4, 5, 5};
        for (int i = 0; i < 2; i++) {
            Check.due("2 ticket of " + i, town.ticketOf(i), due[4 * i]);
            Check.due("2 colour of " + i, town.colourOf(i), due[4 * i + 1]);
            Check.due("2 corner of " + i, town.cornerOf(i), due[4 * i + 2]);
            Check.due("2 walk of " + i, town.walkOf(i), due[4 * i + 3]);
        }
    }

    private static void addStrangerNumbers() {
        TicketCoincidences town = new TicketCoincidences();
        for (int i = 0; i < Edges.FULL; i++) {
            Check.due("2 number " + i, town.addStranger(i * 9, i % 5, i % 6, (i + 1) % 6), i);
            Check.due("2 strangers behind " + i, town.strangers(), i + 1);
        }
        for (int i = 0; i < Edges.FULL; i++) {
            Check.due("2 ticket kept " + i, town.ticketOf(i), i * 9);
            Check.due("2 colour kept " + i, town.colourOf(i), i % 5);
            Check.due("2 corner kept " + i, town.cornerOf(i), i % 6);
            Check.due("2 walk kept " + i, town.walkOf(i), (i + 1) % 6);
        }
    }

    private static void addStrangerRefusesTheThirteenth() {
        Edges.taken("2 twelfth", Edges.crowd(11), t -> t.addStranger(0, 0, 0, 0));
        Edges.refused("2 thirteenth", Edges.full(), Check.NOT_NOW, t -> t.addStranger(0, 0, 0, 0));
        Edges.refused("2 thirteenth, the greatest", Edges.full(), Check.NOT_NOW, t -> t.addStranger(99, 4, 5, 5));
        TicketCoincidences later = Edges.full();
        later.pass(60);
        Edges.refused("2 thirteenth, later", later, Check.NOT_NOW, t -> t.addStranger(1, 1, 1, 1));
        Edges.refused("2 thirteenth, again", later, Check.NOT_NOW, t -> t.addStranger(1, 1, 1, 1));
    }

    private static void addStrangerRefusesNumbersFirst() {
        Edges.outside("2 thirteenth, ticket", 0, 99, Check.NOT_ALLOWED, Edges::full,
                (t, x) -> t.addStranger(x, 0, 0, 0));
        Edges.outside("2 thirteenth, colour", 0, 4, Check.NOT_ALLOWED, Edges::full,
                (t, x) -> t.addStranger(0, x, 0, 0));
        Edges.outside("2 thirteenth, corner", 0, 5, Check.NOT_ALLOWED, Edges::full,
                (t, x) -> t.addStranger(0, 0, x, 0));
        Edges.outside("2 thirteenth, walk", 0, 5, Check.NOT_ALLOWED, Edges::full,
                (t, x) -> t.addStranger(0, 0, 0, x));
        Edges.refused("2 all wrong", new TicketCoincidences(), Check.NOT_ALLOWED, t -> t.addStranger(100, 5, 6, 6));
        Edges.refused("2 all wrong, below", new TicketCoincidences(), Check.NOT_ALLOWED,
                t -> t.addStranger(-1, -1, -1, -1));
    }

    private static void addStrangerIsForNothing() {
        TicketCoincidences town = Edges.withStore(0);
        Check.due("2 with nothing in the store", town.addStranger(12, 0, 0, 0), 3);
        Check.due("2 store stays", town.store(), 0);
        Check.due("2 spent stays", town.spent(), 20);
        Check.due("2 hour stays", town.hour(), 0);
        Check.due("2 counted stays", town.counted(), 0);
    }

    private static void setWalkNoSuchStranger() {
        Edges.noSuchStranger("3", (t, s) -> t.setWalk(s, 5));
    }

    private static void setWalkWalks() {
        Edges.range("3 walk", 0, 5, Check.NOT_ALLOWED, () -> Edges.crowd(1), (t, x) -> {
            t.setWalk(0, x);
            return t.walkOf(0);
        });
    }

    private static void setWalkOfTheLastOfTwelve() {
        Edges.range("3 walk of the last", 0, 5, Check.NOT_ALLOWED, Edges::full, (t, x) -> {
            t.setWalk(11, x);
            return t.walkOf(11);
        });
    }

    private static void setWalkRefusesStrangersFirst() {
        Edges.outside("3 nobody, walk", 0, 5, Check.NO_SUCH, TicketCoincidences::new, (t, x) -> t.setWalk(0, x));
        Edges.outside("3 stranger 12, walk", 0, 5, Check.NO_SUCH, Edges::full, (t, x) -> t.setWalk(12, x));
        Edges.outside("3 stranger -1, walk", 0, 5, Check.NO_SUCH, Edges::full, (t, x) -> t.setWalk(-1, x));
    }

    private static void setWalkReturnsTheOneBefore() {
        for (int before = 0; before <= 5; before++) {
            for (int walk = 0; walk <= 5; walk++) {
                TicketCoincidences town = Check.townOf(new int[] {1, 0, 0, before});
                Check.due("3 from " + before + " to " + walk, town.setWalk(0, walk), before);
                Check.due("3 walk behind " + before, town.walkOf(0), walk);
                Check.due("3 store", town.store(), 20);
                Check.due("3 spent", town.spent(), 0);
            }
        }
    }

    private static void setWalkFromNowOn() {
        TicketCoincidences town = Check.townOf(new int[] {1, 0, 5, 0});
        town.setWalk(0, 5);
        Check.due("3 stands there yet", town.cornerOf(0), 5);
        town.pass(1);
        Check.due("3 from 5 on by 5", town.cornerOf(0), 4);
        town.setWalk(0, 0);
        town.pass(60);
        Check.due("3 stays", town.cornerOf(0), 4);
    }
}
