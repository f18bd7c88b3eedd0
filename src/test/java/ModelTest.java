import java.util.ArrayList;
import java.util.List;
import java.util.function.Supplier;

/**
 * Long runs of calls, each answered a second time by a model that is written from the document
 * in another way: it tries every change on a copy of the town and counts all anew.
 */
public final class ModelTest {
    private static final int RUNS = 120;
    private static final int CALLS = 512;
    private static long seed = 1979;

    private static final class Person {
        int ticket;
        int colour;
        int corner;
        int walk;

        Person(int ticket, int colour, int corner, int walk) {
            this.ticket = ticket;
            this.colour = colour;
            this.corner = corner;
            this.walk = walk;
        }

        String figures() {
            return ticket < 10 ? "0" + ticket : "" + ticket;
        }
    }

    private static final class Model {
        final List<Person> people = new ArrayList<>();
        int hour = 0;
        int store = 20;
        int counted = 0;
        int spent = 0;

        Model copy() {
            Model m = new Model();
            for (Person p : people) {
                m.people.add(new Person(p.ticket, p.colour, p.corner, p.walk));
            }
            m.hour = hour;
            m.store = store;
            m.counted = counted;
            m.spent = spent;
            return m;
        }

        Person at(int stranger) {
            if (stranger < 0 || stranger >= people.size()) {
                throw new IndexOutOfBoundsException();
            }
            return people.get(stranger);
        }

        void pair(int a, int b) {
            at(a);
            at(b);
            allow(a != b);
        }

        static void allow(boolean holds) {
            if (!holds) {
                throw new IllegalArgumentException();
            }
        }

        static void now(boolean holds) {
            if (!holds) {
                throw new IllegalStateException();
            }
        }

        static void within(int x, int least, int most) {
            allow(least <= x && x <= most);
        }

        void spend(int cost) {
            now(cost <= store);
            store -= cost;
            spent += cost;
        }

        static boolean mirrored(Person p, Person q) {
            return new StringBuilder(p.figures()).reverse().toString().equals(q.figures());
        }

        static int sum(Person p) {
            return p.figures().charAt(0) - '0' + p.figures().charAt(1) - '0';
        }

        static int points(Person p, Person q) {
            int points = p.figures().charAt(1) == q.figures().charAt(1) ? 1 : 0;
            points += sum(p) == sum(q) ? 2 : 0;
            points += p.ticket + 1 == q.ticket || q.ticket + 1 == p.ticket ? 3 : 0;
            points += mirrored(p, q) ? 5 : 0;
            return points + (p.colour == q.colour ? 2 : 0);
        }

        int luck(Person p) {
            int luck = 0;
            for (Person q : people) {
                luck += q != p && q.corner == p.corner ? points(p, q) : 0;
            }
            return luck;
        }

        int crowd(int corner) {
            int crowd = 0;
            for (Person p : people) {
                crowd += p.corner == corner ? 1 : 0;
            }
            return crowd;
        }

        /** Each pair is met twice, once from either side. */
        int townAt(int corner) {
            int twice = 0;
            for (Person p : people) {
                twice += p.corner == corner ? luck(p) : 0;
            }
            return twice / 2;
        }

        int town() {
            int sum = 0;
            for (int corner = 0; corner < 6; corner++) {
                sum += townAt(corner);
            }
            return sum;
        }

        void oneHour() {
            for (Person p : people) {
                for (int step = 0; step < p.walk; step++) {
                    p.corner = p.corner == 5 ? 0 : p.corner + 1;
                }
            }
            counted += town();
            for (int corner = 0; corner < 6; corner++) {
                store += crowd(corner) == 0 && store < 100 ? 1 : 0;
            }
            hour++;
        }

        Model behind(int hours) {
            Model m = copy();
            for (int i = 0; i < hours; i++) {
                m.oneHour();
            }
            return m;
        }

        static int way(int from, int to) {
            int up = 0;
            while ((from + up) % 6 != to) {
                up++;
            }
            int down = 0;
            while ((to + down) % 6 != from) {
                down++;
            }
            return 2 * (up < down ? up : down);
        }

        int swapTickets(int a, int b) {
            int before = town();
            int ticket = at(a).ticket;
            at(a).ticket = at(b).ticket;
            at(b).ticket = ticket;
            return town() - before;
        }

        int swapUmbrellas(int a, int b) {
            int before = town();
            int colour = at(a).colour;
            at(a).colour = at(b).colour;
            at(b).colour = colour;
            return town() - before;
        }

        Object luckiestPair() {
            int best = -1;
            for (int number = 1112; number > 0; number--) {
                int a = number / 100;
                int b = number % 100;
                if (a < b && b < people.size() && (best < 0
                        || points(at(a), at(b)) >= points(at(best / 100), at(best % 100)))) {
                    best = number;
                }
            }
            return best;
        }

        Object bestHour() {
            int best = 6;
            for (int hours = 5; hours > 0; hours--) {
                best = behind(hours).town() >= behind(best).town() ? hours : best;
            }
            return best;
        }

        int townWithCorner(int stranger, int corner) {
            Model m = copy();
            m.at(stranger).corner = corner;
            return m.town();
        }

        Object bestCorner(int stranger) {
            at(stranger);
            int best = 5;
            for (int corner = 4; corner >= 0; corner--) {
                best = townWithCorner(stranger, corner) >= townWithCorner(stranger, best) ? corner : best;
            }
            return best;
        }

        int townWithTicket(int stranger, int ticket) {
            Model m = copy();
            m.at(stranger).ticket = ticket;
            return m.town();
        }

        Object bestTicket(int stranger) {
            at(stranger);
            int best = 99;
            int most = townWithTicket(stranger, best);
            for (int ticket = 98; ticket >= 0; ticket--) {
                int sum = townWithTicket(stranger, ticket);
                if (sum >= most) {
                    best = ticket;
                    most = sum;
                }
            }
            return best;
        }

        Object bestSwap() {
            int best = -1;
            int most = 1;
            for (int a = people.size() - 1; a >= 0; a--) {
                for (int b = people.size() - 1; b > a; b--) {
                    int more = copy().swapTickets(a, b);
                    if (more >= most) {
                        best = 100 * a + b;
                        most = more;
                    }
                }
            }
            return best;
        }

        Object hoursUntilTogether(int a, int b) {
            pair(a, b);
            for (int hours = 0; hours < 40; hours++) {
                Model m = behind(hours);
                if (m.at(a).corner == m.at(b).corner) {
                    return hours;
                }
            }
            return -1;
        }

        Object meanLuck() {
            int sum = 0;
            for (Person p : people) {
                sum += luck(p);
            }
            return people.isEmpty() ? 0.0 : (double) sum / people.size();
        }

        Object digest() {
            List<Object> numbers = new ArrayList<>(List.of(people.size(), hour, store, counted, spent,
                    town(), luckiestPair(), bestHour(), bestSwap()));
            for (int corner = 0; corner < 6; corner++) {
                numbers.add(crowd(corner));
                numbers.add(townAt(corner));
            }
            for (int i = 0; i < people.size(); i++) {
                Person p = at(i);
                numbers.addAll(List.of(p.ticket, p.colour, p.corner, p.walk, luck(p), bestCorner(i)));
            }
            long d = 1979;
            for (Object x : numbers) {
                d = d * 31 + (Integer) x;
            }
            return d;
        }

        Object addStranger(int ticket, int colour, int corner, int walk) {
            within(ticket, 0, 99);
            within(colour, 0, 4);
            within(corner, 0, 5);
            within(walk, 0, 5);
            now(people.size() < 12);
            people.add(new Person(ticket, colour, corner, walk));
            return people.size() - 1;
        }

        Object setWalk(int stranger, int walk) {
            int before = at(stranger).walk;
            within(walk, 0, 5);
            at(stranger).walk = walk;
            return before;
        }

        Object move(int stranger, int corner) {
            Person p = at(stranger);
            within(corner, 0, 5);
            now(p.corner != corner);
            int cost = way(p.corner, corner);
            spend(cost);
            p.corner = corner;
            return cost;
        }

        Object draw(int stranger, int ticket) {
            int before = at(stranger).ticket;
            within(ticket, 0, 99);
            spend(12);
            at(stranger).ticket = ticket;
            return before;
        }

        Object pass(int hours) {
            within(hours, 1, 60);
            int before = counted;
            for (int i = 0; i < hours; i++) {
                oneHour();
            }
            return counted - before;
        }

        Object paidUmbrellas(int a, int b) {
            pair(a, b);
            now(at(a).corner == at(b).corner);
            spend(3);
            return swapUmbrellas(a, b);
        }

        Object paidTickets(int a, int b) {
            pair(a, b);
            spend(8);
            return swapTickets(a, b);
        }
    }

    public static void main(String[] args) {
        for (int run = 0; run < RUNS; run++) {
            TicketCoincidences town = new TicketCoincidences();
            Model model = new Model();
            // In some runs tickets, colours and corners are few, so that much is in common.
            int tickets = run % 3 == 0 ? 100 : run % 3 == 1 ? 25 : 12;
            for (int call = 0; call < CALLS; call++) {
                oneCall("run " + run + ", call " + call, town, model, tickets);
            }
        }
        Check.end();
    }

    /** A number from -1 to most, the edges beside it now and then, the same ones in every run of this test. */
    private static int number(int most) {
        seed = seed * 6364136223846793005L + 1442695040888963407L;
        int drawn = (int) (seed >>> 33);
        if (drawn % 50 == 0) {
            return drawn / 50 % 2 == 0 ? -1 : most + 1;
        }
        return drawn / 50 % (most + 1);
    }

    private static void same(String what, Supplier<Object> town, Supplier<Object> model) {
        Check.due(what, answer(town), answer(model));
    }

    private static Object answer(Supplier<Object> call) {
        try {
            return call.get();
        } catch (RuntimeException e) {
            return e.getClass();
        }
    }

    private static void oneCall(String where, TicketCoincidences t, Model m, int tickets) {
        int kind = number(39);
        int last = m.people.isEmpty() ? 0 : m.people.size() - 1;
        if (kind < 10) {
            change(where + ", change " + kind, t, m, kind, tickets - 1);
        } else if (kind < 22) {
            askNumber(where + ", ask " + kind, t, m, kind, number(last));
        } else if (kind < 32) {
            askPair(where + ", pair " + kind, t, m, kind, new int[] {number(last), number(last)});
        } else {
            same(where + ", digest", t::digest, m::digest);
        }
    }

    private static void change(String what, TicketCoincidences t, Model m, int kind, int lastTicket) {
        int last = m.people.isEmpty() ? 0 : m.people.size() - 1;
        int a = number(last);
        int b = number(last);
        int ticket = number(99) % (lastTicket + 1);
        int colour = number(4);
        int corner = number(5);
        int walk = number(5);
        int hours = number(number(9) == 0 ? 60 : 3);
        switch (kind) {
            case 0, 1 -> same(what, () -> t.addStranger(ticket, colour, corner, walk),
                    () -> m.addStranger(ticket, colour, corner, walk));
            case 2 -> same(what, () -> t.setWalk(a, walk), () -> m.setWalk(a, walk));
            case 3 -> same(what, () -> t.move(a, corner), () -> m.move(a, corner));
            case 4 -> same(what, () -> t.swapUmbrellas(a, b), () -> m.paidUmbrellas(a, b));
            case 5 -> same(what, () -> t.swapTickets(a, b), () -> m.paidTickets(a, b));
            case 6 -> same(what, () -> t.draw(a, ticket), () -> m.draw(a, ticket));
            default -> same(what, () -> t.pass(hours), () -> m.pass(hours));
        }
    }

    private static void askNumber(String what, TicketCoincidences t, Model m, int kind, int s) {
        int corner = number(5);
        int hours = number(60);
        switch (kind) {
            case 10 -> same(what, () -> t.ticketOf(s), () -> m.at(s).ticket);
            case 11 -> same(what, () -> t.colourOf(s), () -> m.at(s).colour);
            case 12 -> same(what, () -> t.cornerOf(s), () -> m.at(s).corner);
            case 13 -> same(what, () -> t.walkOf(s), () -> m.at(s).walk);
            case 14 -> same(what, () -> t.luckOf(s), () -> m.luck(m.at(s)));
            case 15 -> same(what, () -> t.bestCorner(s), () -> m.bestCorner(s));
            case 16, 17 -> same(what, () -> t.bestTicket(s), () -> m.bestTicket(s));
            case 18 -> same(what, () -> t.peopleAt(corner), () -> cornerAsked(corner, m.crowd(corner)));
            case 19 -> same(what, () -> t.coincidencesAt(corner), () -> cornerAsked(corner, m.townAt(corner)));
            default -> same(what, () -> t.coincidencesIn(hours), () -> {
                Model.within(hours, 0, 60);
                return m.behind(hours).town();
            });
        }
    }

    private static Object cornerAsked(int corner, int found) {
        if (corner < 0 || corner > 5) {
            throw new IndexOutOfBoundsException();
        }
        return found;
    }

    private static void askPair(String what, TicketCoincidences t, Model m, int kind, int[] p) {
        int a = p[0];
        int b = p[1];
        switch (kind) {
            case 22 -> same(what, () -> t.pointsOf(a, b), () -> pairAsked(m, p, () -> Model.points(m.at(a), m.at(b))));
            case 23 -> same(what, () -> t.areTogether(a, b),
                    () -> pairAsked(m, p, () -> m.at(a).corner == m.at(b).corner));
            case 24 -> same(what, () -> t.areMirrored(a, b),
                    () -> pairAsked(m, p, () -> Model.mirrored(m.at(a), m.at(b))));
            case 25 -> same(what, () -> t.costOfMeeting(a, b),
                    () -> pairAsked(m, p, () -> Model.way(m.at(a).corner, m.at(b).corner)));
            case 26, 27 -> same(what, () -> t.hoursUntilTogether(a, b), () -> m.hoursUntilTogether(a, b));
            case 28 -> same(what, t::luckiestPair, m::luckiestPair);
            case 29 -> same(what, t::bestHour, m::bestHour);
            case 30 -> same(what, t::bestSwap, m::bestSwap);
            default -> same(what, t::meanLuck, m::meanLuck);
        }
    }

    private static Object pairAsked(Model m, int[] p, Supplier<Object> found) {
        m.pair(p[0], p[1]);
        return found.get();
    }
}
