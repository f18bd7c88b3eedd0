import java.math.BigInteger;

/** The edges of promises 26 to 34, what would be; one test for each sentence that names one. */
public final class ForecastEdgesTest {
    public static void main(String[] args) {
        coincidencesInHours();
        coincidencesInNobodyAndTwelve();
        coincidencesInZeroIsNow();
        coincidencesInAsHoursGoBy();
        hoursUntilTogetherNoSuchStranger();
        hoursUntilTogetherBothTheSame();
        hoursUntilTogetherOfAllWalks();
        hoursUntilTogetherZeroIfTheyAreNow();
        hoursUntilTogetherMinusOneIfNever();
        costOfMeetingNoSuchStranger();
        costOfMeetingBothTheSame();
        costOfMeetingOfAllCorners();
        costOfMeetingWhateverIsInTheStore();
        bestHourOneToSix();
        bestHourOfSeveralTheFewest();
        bestHourNobodyAndTwelve();
        bestCornerNoSuchStranger();
        bestCornerZeroToFive();
        bestCornerOfSeveralTheSmallest();
        bestCornerAlsoThatOfNow();
        bestCornerWhateverItCosts();
        bestSwapMinusOneIfNoneBringsMore();
        bestSwapOfAllPairs();
        bestSwapOfSeveralTheSmallest();
        bestSwapWhateverItCosts();
        bestTicketNoSuchStranger();
        bestTicketZeroTo99();
        bestTicketNoneBeyond99();
        bestTicketOfSeveralTheSmallest();
        bestTicketAlsoThatOfNow();
        bestTicketWhateverItCosts();
        meanLuckZeroWithoutAny();
        meanLuckFromOneToTwelve();
        meanLuckIsNoWholeNumber();
        digestOfTheEmptyTownAndTheFullOne();
        digestWrapsAround();
        Check.end();
    }

    private static Object hoursAsked(TicketCoincidences town, int hours) {
        town.coincidencesIn(hours);
        return hours;
    }

    private static void coincidencesInHours() {
        Edges.range("26 nobody, hours", 0, 60, Check.NOT_ALLOWED, TicketCoincidences::new,
                ForecastEdgesTest::hoursAsked);
        Edges.range("26 twelve, hours", 0, 60, Check.NOT_ALLOWED, Edges::full, ForecastEdgesTest::hoursAsked);
    }

    private static void coincidencesInNobodyAndTwelve() {
        for (int hours = 0; hours <= 60; hours++) {
            int h = hours;
            Edges.asked("26 nobody, behind " + h, new TicketCoincidences(), 0, t -> t.coincidencesIn(h));
            Edges.asked("26 one, behind " + h, Edges.crowd(1), 0, t -> t.coincidencesIn(h));
            Edges.asked("26 twelve, behind " + h, Edges.twelveAlike(4), 660, t -> t.coincidencesIn(h));
        }
    }

    private static void coincidencesInZeroIsNow() {
        TicketCoincidences parting = Check.townOf(new int[] {12, 0, 5, 0}, new int[] {21, 1, 5, 1});
        Edges.asked("26 together now", parting, 7, t -> t.coincidencesIn(0));
        Edges.asked("26 parted behind 1", parting, 0, t -> t.coincidencesIn(1));
        TicketCoincidences meeting = Check.townOf(new int[] {12, 0, 5, 1}, new int[] {21, 1, 0, 0});
        Edges.asked("26 apart now", meeting, 0, t -> t.coincidencesIn(0));
        Edges.asked("26 met behind 1, from 5 on to 0", meeting, 7, t -> t.coincidencesIn(1));
    }

    private static void coincidencesInAsHoursGoBy() {
        for (int hours = 1; hours <= 60; hours++) {
            int h = hours;
            TicketCoincidences later = Edges.full();
            later.pass(hours);
            Edges.asked("26 as hours go by, " + h, Edges.full(), later.coincidences(), t -> t.coincidencesIn(h));
        }
    }

    private static void hoursUntilTogetherNoSuchStranger() {
        Edges.noSuchPair("27", (t, a, b) -> t.hoursUntilTogether(a, b));
    }

    private static void hoursUntilTogetherBothTheSame() {
        Edges.bothTheSame("27", (t, a, b) -> t.hoursUntilTogether(a, b));
    }

    private static TicketCoincidences walkers(int corner, int walk, int otherCorner, int otherWalk) {
        return Check.townOf(new int[] {1, 0, corner, walk}, new int[] {2, 0, otherCorner, otherWalk});
    }

    private static int hoursWalked(int corner, int walk, int otherCorner, int otherWalk) {
        TicketCoincidences town = walkers(corner, walk, otherCorner, otherWalk);
        for (int hours = 0; hours <= 60; hours++) {
            if (town.areTogether(0, 1)) {
                return hours;
            }
            town.pass(1);
        }
        return -1;
    }

    private static void hoursUntilTogetherOfAllWalks() {
        for (int corner = 0; corner < 6; corner++) {
            for (int other = 0; other < 6; other++) {
                for (int walk = 0; walk < 36; walk++) {
                    int one = walk / 6;
                    int two = walk % 6;
                    Edges.asked("27 " + corner + " by " + one + ", " + other + " by " + two,
                            walkers(corner, one, other, two), hoursWalked(corner, one, other, two),
                            t -> t.hoursUntilTogether(0, 1));
                }
            }
        }
    }

    private static void hoursUntilTogetherZeroIfTheyAreNow() {
        Edges.asked("27 now, then they part", walkers(5, 0, 5, 1), 0, t -> t.hoursUntilTogether(0, 1));
        Edges.asked("27 now and for ever", walkers(5, 5, 5, 5), 0, t -> t.hoursUntilTogether(1, 0));
        Edges.asked("27 the last two of twelve", Edges.full(), 0, t -> t.hoursUntilTogether(10, 11));
    }

    private static void hoursUntilTogetherMinusOneIfNever() {
        Edges.asked("27 never, both stand", walkers(0, 0, 5, 0), -1, t -> t.hoursUntilTogether(0, 1));
        Edges.asked("27 never, both walk alike", walkers(0, 5, 5, 5), -1, t -> t.hoursUntilTogether(0, 1));
        Edges.asked("27 never, one passes by", walkers(0, 0, 1, 2), -1, t -> t.hoursUntilTogether(0, 1));
        Edges.asked("27 never, one to and fro", walkers(0, 0, 1, 3), -1, t -> t.hoursUntilTogether(0, 1));
        Edges.asked("27 at the last moment", walkers(0, 0, 1, 1), 5, t -> t.hoursUntilTogether(0, 1));
    }

    private static void costOfMeetingNoSuchStranger() {
        Edges.noSuchPair("28", (t, a, b) -> t.costOfMeeting(a, b));
    }

    private static void costOfMeetingBothTheSame() {
        Edges.bothTheSame("28", (t, a, b) -> t.costOfMeeting(a, b));
    }

    private static void costOfMeetingOfAllCorners() {
        // From a corner on by 0 to 5, the shorter way round.
        int[] due = {0, 2, 4, 6, 4, 2};
        for (int corner = 0; corner < 6; corner++) {
            for (int on = 0; on < 6; on++) {
                int other = (corner + on) % 6;
                String what = "28 " + corner + " and " + other;
                Edges.asked(what, walkers(corner, 0, other, 5), due[on], t -> t.costOfMeeting(0, 1));
                Edges.asked(what + ", turned", walkers(corner, 0, other, 5), due[on], t -> t.costOfMeeting(1, 0));
            }
        }
    }

    private static void costOfMeetingWhateverIsInTheStore() {
        TicketCoincidences town = Edges.withStore(0);
        town.addStranger(1, 0, 3, 0);
        Edges.asked("28 together, with nothing", town, 0, t -> t.costOfMeeting(0, 1));
        Edges.asked("28 apart, with nothing", town, 6, t -> t.costOfMeeting(0, 3));
    }

    /** 12 walks on by 1 from corner 0; 21 waits at the one corner, and, with another colour, at the other one. */
    private static TicketCoincidences waiting(int hour, int colour, int later, int laterColour) {
        return Check.townOf(new int[] {12, 0, 0, 1}, new int[] {21, colour, hour % 6, 0},
                new int[] {21, laterColour, later % 6, 0});
    }

    private static void bestHourOneToSix() {
        for (int hour = 1; hour <= 6; hour++) {
            TicketCoincidences town = Check.townOf(new int[] {12, 0, 0, 1}, new int[] {21, 1, hour % 6, 0});
            Edges.asked("29 behind " + hour, town, hour, t -> t.bestHour());
        }
    }

    private static void bestHourOfSeveralTheFewest() {
        for (int hour = 1; hour <= 6; hour++) {
            for (int later = hour + 1; later <= 6; later++) {
                String what = "29 of " + hour + " and " + later;
                Edges.asked(what + ", as many", waiting(hour, 1, later, 2), hour, t -> t.bestHour());
                Edges.asked(what + ", the first has more", waiting(hour, 0, later, 2), hour, t -> t.bestHour());
                Edges.asked(what + ", the second has more", waiting(hour, 1, later, 0), later, t -> t.bestHour());
            }
        }
        // Together now and behind each hour: now is none of 1 to 6, nor is behind 7.
        Edges.asked("29 all as many", walkers(0, 1, 0, 1), 1, t -> t.bestHour());
    }

    private static void bestHourNobodyAndTwelve() {
        Edges.asked("29 nobody", new TicketCoincidences(), 1, t -> t.bestHour());
        Edges.asked("29 one", Edges.crowd(1), 1, t -> t.bestHour());
        Edges.asked("29 never", walkers(0, 0, 1, 0), 1, t -> t.bestHour());
        Edges.asked("29 twelve", Edges.twelveAlike(5), 1, t -> t.bestHour());
        Edges.asked("29 twelve, together now and behind 6", Edges.full(), 6, t -> t.bestHour());
    }

    private static void bestCornerNoSuchStranger() {
        Edges.noSuchStranger("30", (t, s) -> t.bestCorner(s));
    }

    /** 12 stands at one corner, and 21 at two others, with these colours; 12 has colour 0. */
    private static TicketCoincidences choice(int here, int corner, int colour, int other, int otherColour) {
        return Check.townOf(new int[] {12, 0, here, 0}, new int[] {21, colour, corner, 0},
                new int[] {21, otherColour, other, 0});
    }

    private static void bestCornerZeroToFive() {
        for (int here = 0; here < 6; here++) {
            for (int corner = 0; corner < 6; corner++) {
                TicketCoincidences town = Check.townOf(new int[] {12, 0, here, 0}, new int[] {21, 1, corner, 0});
                Edges.asked("30 from " + here + " to " + corner, town, corner, t -> t.bestCorner(0));
            }
        }
        for (int corner = 0; corner < 6; corner++) {
            int best = corner;
            Edges.asked("30 the last of twelve at " + corner, Edges.twelveAlike(corner), best, t -> t.bestCorner(11));
        }
    }

    private static void bestCornerOfSeveralTheSmallest() {
        for (int here = 0; here < 6; here++) {
            Edges.asked("30 alone at " + here, Check.townOf(new int[] {12, 0, here, 0}), 0, t -> t.bestCorner(0));
            TicketCoincidences strange = Check.townOf(new int[] {12, 0, here, 0}, new int[] {35, 1, here, 0});
            Edges.asked("30 nothing in common at " + here, strange, 0, t -> t.bestCorner(0));
            for (int corner = 0; corner < 6; corner++) {
                for (int other = corner + 1; other < 6; other++) {
                    int small = corner;
                    int great = other;
                    String what = "30 from " + here + " to " + corner + " or " + other;
                    Edges.asked(what + ", as many", choice(here, corner, 1, other, 2), small, t -> t.bestCorner(0));
                    Edges.asked(what + ", as many, turned", choice(here, other, 1, corner, 2), small,
                            t -> t.bestCorner(0));
                    Edges.asked(what + ", the second has more", choice(here, corner, 1, other, 0), great,
                            t -> t.bestCorner(0));
                }
            }
        }
    }

    private static void bestCornerAlsoThatOfNow() {
        for (int here = 0; here < 6; here++) {
            int best = here;
            int beside = (here + 1) % 6;
            Edges.asked("30 stays at " + here, choice(here, here, 0, beside, 1), best, t -> t.bestCorner(0));
        }
    }

    private static void bestCornerWhateverItCosts() {
        TicketCoincidences town = Edges.withStore(0);
        town.addStranger(21, 2, 3, 0);
        Edges.asked("30 with nothing in the store", town, 0, t -> t.bestCorner(3));
        // 3 points at the next corner, which costs 2; more at the farthest one, which costs 6.
        town.addStranger(22, 1, 2, 0);
        Edges.asked("30 the farthest, with nothing in the store", town, 0, t -> t.bestCorner(3));
    }

    private static void bestSwapMinusOneIfNoneBringsMore() {
        Edges.asked("31 nobody", new TicketCoincidences(), -1, t -> t.bestSwap());
        Edges.asked("31 one", Edges.crowd(1), -1, t -> t.bestSwap());
        Edges.asked("31 two together", Edges.crowd(2), -1, t -> t.bestSwap());
        Edges.asked("31 two apart", walkers(0, 0, 1, 0), -1, t -> t.bestSwap());
        Edges.asked("31 twelve together", Edges.full(), -1, t -> t.bestSwap());
        // 12 and 21 here, 34 and 43 there: each swap across leaves fewer.
        Edges.asked("31 all bring fewer", Check.townOf(new int[] {12, 0, 0, 0}, new int[] {21, 1, 0, 0},
                new int[] {34, 2, 5, 0}, new int[] {43, 3, 5, 0}), -1, t -> t.bestSwap());
        Edges.asked("31 as many is not more", Check.townOf(new int[] {12, 0, 0, 0}, new int[] {21, 1, 0, 0},
                new int[] {12, 2, 5, 0}), -1, t -> t.bestSwap());
    }

    /**
     * A town where only the swap of a and b brings more: a stands with the 12 of a third one, and b alone
     * with the ticket that has something in common with 12. All others, with 36, are together.
     */
    private static TicketCoincidences swap(int a, int b, int ticket) {
        int third = 0;
        while (third == a || third == b) {
            third++;
        }
        TicketCoincidences town = new TicketCoincidences();
        for (int i = 0; i < 12; i++) {
            if (i == a) {
                town.addStranger(50, 0, 4, 0);
            } else if (i == b) {
                town.addStranger(ticket, 1, 5, 0);
            } else if (i == third) {
                town.addStranger(12, 2, 4, 0);
            } else {
                town.addStranger(36, 3, 0, 0);
            }
        }
        return town;
    }

    private static void bestSwapOfAllPairs() {
        for (int a = 0; a < 12; a++) {
            for (int b = a + 1; b < 12; b++) {
                int due = 100 * a + b;
                String what = "31 of twelve " + a + ", " + b;
                Edges.asked(what, swap(a, b, 21), due, t -> t.bestSwap());
                Edges.asked(what + ", turned", swap(b, a, 21), due, t -> t.bestSwap());
                Edges.asked(what + ", just 1 more", swap(a, b, 42), due, t -> t.bestSwap());
            }
        }
    }

    private static void bestSwapOfSeveralTheSmallest() {
        // 1 or 2 gets the 21 of 3; 0 has the 12.
        Edges.asked("31 of 103 and 203", Check.townOf(new int[] {12, 0, 0, 0}, new int[] {50, 1, 0, 0},
                new int[] {85, 2, 0, 0}, new int[] {21, 3, 5, 0}), 103, t -> t.bestSwap());
        // 1 gets the 21 of 2 or 3.
        Edges.asked("31 of 102 and 103", Check.townOf(new int[] {12, 0, 0, 0}, new int[] {50, 1, 0, 0},
                new int[] {21, 2, 4, 0}, new int[] {21, 3, 5, 0}), 102, t -> t.bestSwap());
        // 3 more for 13, 7 more for 21.
        Edges.asked("31 more go before a smaller number", Check.townOf(new int[] {12, 0, 0, 0},
                new int[] {50, 1, 0, 0}, new int[] {13, 2, 4, 0}, new int[] {21, 3, 5, 0}), 103, t -> t.bestSwap());
        // 60 with 2, or 85 with 1, brings 12 and 21 together.
        Edges.asked("31 of 2 and 103", Check.townOf(new int[] {60, 0, 0, 0}, new int[] {12, 1, 0, 0},
                new int[] {21, 2, 3, 0}, new int[] {85, 3, 3, 0}), 2, t -> t.bestSwap());
    }

    private static void bestSwapWhateverItCosts() {
        TicketCoincidences town = Edges.withStore(0);
        town.addStranger(85, 4, 3, 0);
        Edges.asked("31 none, with nothing in the store", town, -1, t -> t.bestSwap());
        TicketCoincidences split = Edges.withStore(0);
        split.addStranger(51, 4, 0, 0);
        // Swapped, this 12 is with 12 and 21 at corner 0, and 51 with the 50 at corner 4.
        split.addStranger(12, 3, 4, 0);
        Edges.asked("31 with nothing in the store", split, 304, t -> t.bestSwap());
    }

    private static void bestTicketNoSuchStranger() {
        Edges.noSuchStranger("32", (t, s) -> t.bestTicket(s));
    }

    private static int turned(int ticket) {
        return ticket % 10 * 10 + ticket / 10;
    }

    private static void bestTicketZeroTo99() {
        for (int ticket = 0; ticket <= 99; ticket++) {
            TicketCoincidences town = Check.townOf(new int[] {50, 0, 5, 0}, new int[] {ticket, 1, 5, 0});
            // The mirrored one has 7 points or 8, no other has more than 5.
            Edges.asked("32 beside " + ticket, town, turned(ticket), t -> t.bestTicket(0));
        }
        Edges.asked("32 the last of twelve", Edges.twelveAlike(0), 11, t -> t.bestTicket(11));
    }

    /**
     * If there were a ticket 100, it would have 12 points: 3 with 99, and 1 with each of 10, 20 to 90.
     * 9 has 11: 1 with 99, 7 with 90 and 3 with 10; 10 has as many.
     */
    private static void bestTicketNoneBeyond99() {
        TicketCoincidences town = Check.townOf(new int[] {50, 0, 5, 0}, new int[] {99, 1, 5, 0});
        for (int ticket = 10; ticket <= 90; ticket += 10) {
            town.addStranger(ticket, 1, 5, 0);
        }
        Edges.asked("32 none beyond 99", town, 9, t -> t.bestTicket(0));
    }

    private static TicketCoincidences between(int ticket, int other) {
        return Check.townOf(new int[] {50, 0, 0, 0}, new int[] {ticket, 1, 0, 0}, new int[] {other, 2, 0, 0});
    }

    private static void bestTicketOfSeveralTheSmallest() {
        TicketCoincidences alone = Check.townOf(new int[] {99, 0, 5, 0}, new int[] {98, 0, 0, 0});
        Edges.asked("32 alone", alone, 0, t -> t.bestTicket(0));
        // 21 or 89, 7 points each; no ticket has more with both.
        Edges.asked("32 21 or 89", between(12, 98), 21, t -> t.bestTicket(0));
        Edges.asked("32 21 or 89, turned", between(98, 12), 21, t -> t.bestTicket(0));
        // 8 points with 99 itself, 7 with 12.
        Edges.asked("32 more go before a smaller one", between(12, 99), 99, t -> t.bestTicket(0));
        // 8 points each, with itself.
        Edges.asked("32 0 or 99", between(99, 0), 0, t -> t.bestTicket(0));
    }

    private static void bestTicketAlsoThatOfNow() {
        for (int ticket = 0; ticket <= 99; ticket++) {
            TicketCoincidences town = Check.townOf(new int[] {turned(ticket), 0, 5, 0}, new int[] {ticket, 1, 5, 0});
            Edges.asked("32 has it now, beside " + ticket, town, turned(ticket), t -> t.bestTicket(0));
        }
    }

    private static void bestTicketWhateverItCosts() {
        for (int left = 0; left <= 12; left++) {
            Edges.asked("32 with " + left + " in the store", Edges.withStore(left), 21, t -> t.bestTicket(1));
        }
        // Its own ticket, 21, has 7 points with 12; 89 has 7 with each 98.
        TicketCoincidences town = Edges.withStore(0);
        town.addStranger(98, 3, 0, 0);
        town.addStranger(98, 4, 0, 0);
        Edges.asked("32 another one, with nothing in the store", town, 89, t -> t.bestTicket(1));
    }

    private static void meanLuckZeroWithoutAny() {
        Edges.asked("33 nobody", new TicketCoincidences(), 0.0, t -> t.meanLuck());
        TicketCoincidences later = new TicketCoincidences();
        later.pass(60);
        Edges.asked("33 nobody, later", later, 0.0, t -> t.meanLuck());
    }

    private static void meanLuckFromOneToTwelve() {
        Edges.asked("33 one", Edges.crowd(1), 0.0, t -> t.meanLuck());
        Edges.asked("33 two apart", walkers(0, 0, 5, 0), 0.0, t -> t.meanLuck());
        Edges.asked("33 twelve", Edges.twelveAlike(5), 110.0, t -> t.meanLuck());
    }

    private static void meanLuckIsNoWholeNumber() {
        for (int people = 3; people <= 12; people++) {
            TicketCoincidences town = Check.townOf(new int[] {12, 0, 5, 0}, new int[] {21, 1, 5, 0});
            int others = people - 2;
            for (int i = 0; i < others; i++) {
                town.addStranger(12, 0, 0, 0);
            }
            // The first two have 7 points, and each pair of the others 5.
            double sum = 14 + 5 * others * (others - 1);
            Edges.asked("33 mean of " + people, town, sum / people, t -> t.meanLuck());
        }
        TicketCoincidences three = Check.townOf(new int[] {12, 0, 5, 0}, new int[] {21, 1, 5, 0},
                new int[] {50, 2, 0, 0});
        Edges.asked("33 two thirds", three, 14.0 / 3.0, t -> t.meanLuck());
    }

    private static BigInteger next(BigInteger d, long x) {
        return d.multiply(BigInteger.valueOf(31)).add(BigInteger.valueOf(x));
    }

    /** The checksum without any wrapping, from all that the face tells. */
    private static BigInteger whole(TicketCoincidences t) {
        int[] first = {t.strangers(), t.hour(), t.store(), t.counted(), t.spent(), t.coincidences(),
            t.luckiestPair(), t.bestHour(), t.bestSwap()};
        BigInteger d = BigInteger.valueOf(1979);
        for (int x : first) {
            d = next(d, x);
        }
        for (int corner = 0; corner < 6; corner++) {
            d = next(next(d, t.peopleAt(corner)), t.coincidencesAt(corner));
        }
        for (int i = 0; i < t.strangers(); i++) {
            int[] one = {t.ticketOf(i), t.colourOf(i), t.cornerOf(i), t.walkOf(i), t.luckOf(i), t.bestCorner(i)};
            for (int x : one) {
                d = next(d, x);
            }
        }
        return d;
    }

    private static void digestOfTheEmptyTownAndTheFullOne() {
        for (int people = 0; people <= 12; people++) {
            TicketCoincidences town = Edges.crowd(people);
            Edges.asked("34 of " + people, town, whole(town).longValue(), t -> t.digest());
            TicketCoincidences later = Edges.crowd(people);
            later.pass(7);
            Edges.asked("34 of " + people + ", later", later, whole(later).longValue(), t -> t.digest());
        }
        TicketCoincidences spent = Edges.withStore(0);
        Edges.asked("34 with nothing in the store", spent, whole(spent).longValue(), t -> t.digest());
        TicketCoincidences alike = Edges.twelveAlike(5);
        alike.pass(60);
        Edges.asked("34 the most points", alike, whole(alike).longValue(), t -> t.digest());
    }

    private static void digestWrapsAround() {
        TicketCoincidences town = new TicketCoincidences();
        BigInteger whole = whole(town);
        Check.due("34 more than 64 bits", whole.bitLength() > 64, true);
        Check.due("34 the lowest 64 bits", town.digest(), whole.longValue());
    }
}
