/** The edges of promises 9 to 18, what there is; one test for each sentence that names one. */
public final class StateEdgesTest {
    /** An object is asked at most so often. */
    private static final int CALLS = 512;

    public static void main(String[] args) {
        strangersFromNobodyToTwelve();
        hourFromZeroOn();
        storeFromZeroToHundred();
        countedFromZeroOn();
        spentFromZeroOn();
        ticketOfNoSuchStranger();
        ticketOfTheLeastAndTheGreatest();
        colourOfNoSuchStranger();
        colourOfTheLeastAndTheGreatest();
        cornerOfNoSuchStranger();
        cornerOfTheLeastAndTheGreatest();
        walkOfNoSuchStranger();
        walkOfTheLeastAndTheGreatest();
        peopleAtNoSuchCorner();
        peopleAtFromNobodyToTwelve();
        peopleAtEachCorner();
        Check.end();
    }

    private static void strangersFromNobodyToTwelve() {
        for (int people = 0; people <= 12; people++) {
            Edges.asked("9 of " + people, Edges.crowd(people), people, t -> t.strangers());
        }
        Edges.refused("9 one more", Edges.full(), Check.NOT_NOW, t -> t.addStranger(0, 0, 0, 0));
    }

    private static void hourFromZeroOn() {
        Edges.asked("10 nobody, at first", new TicketCoincidences(), 0, t -> t.hour());
        Edges.asked("10 twelve, at first", Edges.full(), 0, t -> t.hour());
        TicketCoincidences town = new TicketCoincidences();
        for (int call = 1; call < CALLS; call++) {
            town.pass(60);
        }
        Check.due("10 the last hour that 512 calls can tell", town.hour(), 30660);
    }

    private static void storeFromZeroToHundred() {
        Edges.asked("11 at first", new TicketCoincidences(), 20, t -> t.store());
        for (int left = 0; left <= 20; left++) {
            Edges.asked("11 the store is " + left, Edges.withStore(left), left, t -> t.store());
        }
        TicketCoincidences full = new TicketCoincidences();
        full.pass(60);
        Edges.asked("11 the most", full, 100, t -> t.store());
    }

    private static void countedFromZeroOn() {
        Edges.asked("12 nobody", new TicketCoincidences(), 0, t -> t.counted());
        Edges.asked("12 not before an hour goes by", Edges.twelveAlike(0), 0, t -> t.counted());
        TicketCoincidences town = Edges.twelveAlike(0);
        for (int call = 13; call < CALLS; call++) {
            town.pass(60);
        }
        Check.due("12 the most that 512 calls can tell", town.counted(), 499 * 60 * 660);
    }

    private static void spentFromZeroOn() {
        Edges.asked("13 nobody", new TicketCoincidences(), 0, t -> t.spent());
        Edges.asked("13 nothing yet", Edges.full(), 0, t -> t.spent());
        TicketCoincidences town = Edges.crowd(1);
        int spent = 0;
        for (int day = 0; day < 20; day++) {
            town.pass(60);
            for (int i = 0; i < 8; i++) {
                town.draw(0, i);
            }
            spent += 96;
            Check.due("13 on day " + day, town.spent(), spent);
            Check.due("13 on day " + day + ", left", town.store(), 4);
        }
        Edges.refused("13 a refused call costs nothing", town, Check.NOT_NOW, t -> t.draw(0, 0));
        Check.due("13 all that could be spent", Edges.withStore(0).spent(), 20);
    }

    private static void ticketOfNoSuchStranger() {
        Edges.noSuchStranger("14", (t, s) -> t.ticketOf(s));
    }

    /** Twelve strangers, who have the tickets 0, 9 to 99, and every colour, corner and walk among them. */
    private static TicketCoincidences twelve() {
        TicketCoincidences town = new TicketCoincidences();
        for (int i = 0; i < 12; i++) {
            town.addStranger(i * 9, i % 5, i % 6, 5 - i % 6);
        }
        return town;
    }

    private static void ticketOfTheLeastAndTheGreatest() {
        for (int i = 0; i < 12; i++) {
            int one = i;
            Edges.asked("14 ticket of " + i, twelve(), i * 9, t -> t.ticketOf(one));
        }
    }

    private static void colourOfNoSuchStranger() {
        Edges.noSuchStranger("15", (t, s) -> t.colourOf(s));
    }

    private static void colourOfTheLeastAndTheGreatest() {
        for (int i = 0; i < 12; i++) {
            int one = i;
            Edges.asked("15 colour of " + i, twelve(), i % 5, t -> t.colourOf(one));
        }
    }

    private static void cornerOfNoSuchStranger() {
        Edges.noSuchStranger("16", (t, s) -> t.cornerOf(s));
    }

    private static void cornerOfTheLeastAndTheGreatest() {
        for (int i = 0; i < 12; i++) {
            int one = i;
            Edges.asked("16 corner of " + i, twelve(), i % 6, t -> t.cornerOf(one));
            TicketCoincidences later = twelve();
            later.pass(1);
            // Corner and walk are 5 together: all stand at 5 behind an hour.
            Edges.asked("16 corner of " + i + " behind an hour", later, 5, t -> t.cornerOf(one));
        }
    }

    private static void walkOfNoSuchStranger() {
        Edges.noSuchStranger("17", (t, s) -> t.walkOf(s));
    }

    private static void walkOfTheLeastAndTheGreatest() {
        for (int i = 0; i < 12; i++) {
            int one = i;
            Edges.asked("17 walk of " + i, twelve(), 5 - i % 6, t -> t.walkOf(one));
            TicketCoincidences later = twelve();
            later.pass(1);
            Edges.asked("17 walk of " + i + " behind an hour", later, 5 - i % 6, t -> t.walkOf(one));
        }
    }

    private static Object cornerAsked(TicketCoincidences town, int corner) {
        town.peopleAt(corner);
        return corner;
    }

    private static void peopleAtNoSuchCorner() {
        Edges.range("18 nobody, corner", 0, 5, Check.NO_SUCH, TicketCoincidences::new, StateEdgesTest::cornerAsked);
        Edges.range("18 twelve, corner", 0, 5, Check.NO_SUCH, Edges::full, StateEdgesTest::cornerAsked);
    }

    private static void peopleAtFromNobodyToTwelve() {
        for (int people = 0; people <= 12; people++) {
            Edges.asked("18 nobody beside " + people, Edges.crowd(people), 0, t -> t.peopleAt(1));
            Edges.asked("18 of " + people, Edges.crowd(people), people, t -> t.peopleAt(0));
        }
    }

    private static void peopleAtEachCorner() {
        for (int corner = 0; corner < 6; corner++) {
            for (int asked = 0; asked < 6; asked++) {
                int here = asked;
                Edges.asked("18 at " + asked + ", twelve at " + corner, Edges.twelveAlike(corner),
                        asked == corner ? 12 : 0, t -> t.peopleAt(here));
            }
        }
    }
}
