import java.util.function.Supplier;

/** Compares answers with what is due, prints those that differ, and ends a test with exit code 1 if there were any. */
final class Check {
    static final Class<? extends RuntimeException> NO_SUCH = IndexOutOfBoundsException.class;
    static final Class<? extends RuntimeException> NOT_ALLOWED = IllegalArgumentException.class;
    static final Class<? extends RuntimeException> NOT_NOW = IllegalStateException.class;

    private static int passed = 0;
    private static int failed = 0;

    private Check() {
    }

    /** A town of strangers, each given by ticket, colour, corner and walk. */
    static TicketCoincidences townOf(int[]... strangers) {
        TicketCoincidences town = new TicketCoincidences();
        for (int[] s : strangers) {
            town.addStranger(s[0], s[1], s[2], s[3]);
        }
        return town;
    }

    static void due(String what, Object got, Object want) {
        if (want.equals(got)) {
            passed++;
        } else {
            failed++;
            System.out.println(what + " answered " + got + ", due is " + want);
        }
    }

    /** The call must throw exactly this class, and leave everything that can be asked as it was. */
    static void refused(String what, TicketCoincidences town, Class<? extends RuntimeException> want,
            Supplier<Object> call) {
        long before = town.digest();
        Object got;
        try {
            got = call.get();
        } catch (RuntimeException e) {
            got = e.getClass();
        }
        due(what, got, want);
        due(what + ", digest behind it", town.digest(), before);
    }

    /** The call must change nothing that can be asked. */
    static void asks(String what, TicketCoincidences town, Supplier<Object> call, Object want) {
        long before = town.digest();
        due(what, call.get(), want);
        due(what + ", digest behind it", town.digest(), before);
    }

    static void end() {
        System.out.println(passed + " passed, " + failed + " failed");
        if (failed != 0) {
            System.exit(1);
        }
    }
}
