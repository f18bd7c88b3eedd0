import java.util.function.Supplier;

/**
 * Edges that many promises share: strangers, pairs and numbers that are just in, just out and far out,
 * and what is in the store just enough or just too little. Each call is tried on a town of its own, so
 * that no town is asked more often than the document promises.
 */
final class Edges {
    interface OnTown {
        Object of(TicketCoincidences town);
    }

    interface OnNumber {
        Object of(TicketCoincidences town, int number);
    }

    interface OnPair {
        Object of(TicketCoincidences town, int a, int b);
    }

    static final int FULL = 12;
    private static final int FIRST_STORE = 20;

    private Edges() {
    }

    /** So many strangers, of many kinds, all at corner 0. */
    static TicketCoincidences crowd(int people) {
        TicketCoincidences town = new TicketCoincidences();
        for (int i = 0; i < people; i++) {
            town.addStranger(i * 37 % 100, i % 5, 0, i % 6);
        }
        return town;
    }

    static TicketCoincidences full() {
        return crowd(FULL);
    }

    /** Twelve strangers who walk together; each of the 66 pairs has the most points there are, 10. */
    static TicketCoincidences twelveAlike(int corner) {
        TicketCoincidences town = new TicketCoincidences();
        for (int i = 0; i < FULL; i++) {
            town.addStranger(11, 3, corner, 1);
        }
        return town;
    }

    /**
     * A town with so much in the store, 0 to 20. Strangers 0 and 1 are at corner 0, with tickets 12 and 21
     * and umbrellas of one colour; the third one, at corner 4 or 5, has nothing in common with them.
     */
    static TicketCoincidences withStore(int left) {
        TicketCoincidences town = Check.townOf(new int[] {12, 0, 0, 0}, new int[] {21, 0, 0, 0},
                new int[] {50, 1, 4, 0});
        if (left == FIRST_STORE - 1) {
            town.pass(1);
        }
        if ((town.store() - left) % 2 == 1) {
            town.swapUmbrellas(0, 1);
        }
        while (town.store() > left) {
            town.move(2, town.cornerOf(2) == 4 ? 5 : 4);
        }
        return town;
    }

    /** All that the face tells of a town's state. */
    static String told(TicketCoincidences town) {
        StringBuilder all = new StringBuilder();
        all.append("hour ").append(town.hour()).append(", store ").append(town.store());
        all.append(", counted ").append(town.counted()).append(", spent ").append(town.spent());
        for (int i = 0; i < town.strangers(); i++) {
            all.append("; ").append(i).append(": ").append(town.ticketOf(i)).append(' ').append(town.colourOf(i));
            all.append(' ').append(town.cornerOf(i)).append(' ').append(town.walkOf(i));
        }
        return all.append("; ").append(town.digest()).toString();
    }

    private static Object answer(TicketCoincidences town, OnTown call) {
        try {
            return call.of(town);
        } catch (RuntimeException e) {
            return e.getClass();
        }
    }

    /** The call must throw exactly this class, and nothing has changed behind it. */
    static void refused(String what, TicketCoincidences town, Class<? extends RuntimeException> want, OnTown call) {
        unchanged(what, town, want, call);
    }

    /** The call must answer this, and nothing has changed behind it. */
    static void asked(String what, TicketCoincidences town, Object want, OnTown call) {
        unchanged(what, town, want, call);
    }

    private static void unchanged(String what, TicketCoincidences town, Object want, OnTown call) {
        String before = told(town);
        Check.due(what, answer(town, call), want);
        Check.due(what + ", behind it", told(town), before);
    }

    /** The call must not throw. */
    static void taken(String what, TicketCoincidences town, OnTown call) {
        Object got = answer(town, call);
        Check.due(what + (got instanceof Class ? ", which threw " + got : "") + ", is taken", got instanceof Class, false);
    }

    /** The call gives back the number it is given, for all from least to most; all others are refused. */
    static void range(String what, int least, int most, Class<? extends RuntimeException> want,
            Supplier<TicketCoincidences> made, OnNumber call) {
        for (int i = least; i <= most; i++) {
            int in = i;
            Check.due(what + " " + in, answer(made.get(), t -> call.of(t, in)), in);
        }
        outside(what, least, most, want, made, call);
    }

    static void outside(String what, int least, int most, Class<? extends RuntimeException> want,
            Supplier<TicketCoincidences> made, OnNumber call) {
        int[] wrong = {Integer.MIN_VALUE, -65536, -256, least - 1, most + 1, most + 2, 256, 65536, Integer.MAX_VALUE};
        for (int out : wrong) {
            refused(what + " " + out, made.get(), want, t -> call.of(t, out));
        }
    }

    private static int[] notThere(int people) {
        return new int[] {Integer.MIN_VALUE, -256, -1, people, FULL, 256, Integer.MAX_VALUE};
    }

    /** From the empty town to the full one, each stranger who is there is taken, and no other. */
    static void noSuchStranger(String promise, OnNumber call) {
        for (int people = 0; people <= FULL; people++) {
            String of = " of " + people;
            for (int i = 0; i < people; i++) {
                int in = i;
                taken(promise + " stranger " + in + of, crowd(people), t -> call.of(t, in));
            }
            for (int out : notThere(people)) {
                refused(promise + " stranger " + out + of, crowd(people), Check.NO_SUCH, t -> call.of(t, out));
            }
        }
    }

    /** From the empty town to the full one, each pair that is there is taken, and no other, the same twice neither. */
    static void noSuchPair(String promise, OnPair call) {
        for (int people = 0; people <= FULL; people++) {
            for (int a = 0; a < people; a++) {
                for (int b = 0; b < people; b++) {
                    pairThere(promise, people, a, b, call);
                }
            }
            for (int out : notThere(people)) {
                pairNotThere(promise, people, out, out, call);
                for (int in = 0; in < people; in++) {
                    pairNotThere(promise, people, out, in, call);
                    pairNotThere(promise, people, in, out, call);
                }
            }
        }
    }

    private static void pairThere(String promise, int people, int a, int b, OnPair call) {
        if (a != b) {
            taken(promise + " pair " + a + ", " + b + " of " + people, crowd(people), t -> call.of(t, a, b));
        }
    }

    private static void pairNotThere(String promise, int people, int a, int b, OnPair call) {
        refused(promise + " pair " + a + ", " + b + " of " + people, crowd(people), Check.NO_SUCH,
                t -> call.of(t, a, b));
    }

    /** Each stranger who is there, with this one itself. */
    static void bothTheSame(String promise, OnPair call) {
        for (int people = 1; people <= FULL; people++) {
            for (int i = 0; i < people; i++) {
                int one = i;
                refused(promise + " the same " + one + " of " + people, crowd(people), Check.NOT_ALLOWED,
                        t -> call.of(t, one, one));
            }
        }
    }

    /** In the town of withStore the call is refused with less than its cost in the store, and else costs just that. */
    static void costsTooMuch(String promise, int cost, OnTown call) {
        for (int left = 0; left <= FIRST_STORE; left++) {
            TicketCoincidences town = withStore(left);
            String what = promise + " costs " + cost + " of " + left;
            Check.due(what + ", the store", town.store(), left);
            if (left < cost) {
                refused(what, town, Check.NOT_NOW, call);
            } else {
                int spent = town.spent();
                taken(what, town, call);
                Check.due(what + ", the store behind it", town.store(), left - cost);
                Check.due(what + ", spent behind it", town.spent(), spent + cost);
            }
        }
    }
}
