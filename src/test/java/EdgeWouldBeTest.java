/** Promises 17 to 21 sentence by sentence: ruin, settling, the best ring, offers and forgetting them. */
public final class EdgeWouldBeTest {
    private static final int PERSON = 0, CHILD = 1, WIDOW = 2, GRUNTER = 3, SAINT = 4;
    private static final int NONE = ThanksOwed.NONE, UNKNOWN = ThanksOwed.UNKNOWN, OUTSIDE = ThanksOwed.OUTSIDE;
    private static final int FULL = ThanksOwed.FULL;
    private static final Edge edge = new Edge();

    public static void main(String[] args) {
        edge.run(EdgeWouldBeTest.class);
    }

    private static ThanksOwed fivePersons() {
        return edge.town("1u00", 0, PERSON, PERSON, PERSON, PERSON, PERSON);
    }

    // ---- 17 ruin

    @Sentence(promise = 17, words = "UNKNOWN")
    static void ruinOfUnknownPeople() {
        edge.range(edge::rich, "ruin(person)", (x, n) -> x.ruin(n), 0, 3, UNKNOWN);
        edge.range(edge::full, "ruin(person) of five", (x, n) -> x.ruin(n), 0, 4, UNKNOWN);
        edge.refuses(ThanksOwed::new, "ruin(0)", x -> x.ruin(0), UNKNOWN);
    }

    @Sentence(promise = 17, words = "behind how many WEEKS (0 to 40)")
    static void ruinedNow() {
        ThanksOwed x = edge.town("0u00", 10, PERSON, PERSON);
        edge.owe(x, 0, 1, 11);
        edge.due("NET of -1", x.ruin(0), 0);
    }

    @Sentence(promise = 17, words = "RUINED is he whose NET is below 0")
    static void neverRuinedAtZero() {
        ThanksOwed x = edge.town("0u00", 10, PERSON, PERSON);
        edge.owe(x, 0, 1, 10);
        edge.due("NET of 0", x.ruin(0), NONE);
    }

    @Sentence(promise = 17, words = "behind how many WEEKS (0 to 40)")
    static void ruinedBehindOneWeek() {
        ThanksOwed x = edge.town("1u00", 10, PERSON, PERSON);
        edge.owe(x, 0, 1, 10);
        edge.due("10, then 11", x.ruin(0), 1);
        edge.owe(x, 0, 1, 1);
        edge.due("11 now", x.ruin(0), 0);
    }

    /** What 0 OWES is 124 behind 40 weeks, 136 behind 41; he has 99, and a child OWES him what does not grow. */
    private static ThanksOwed ruinedLate(int owedByChild) {
        ThanksOwed x = edge.town("1d90", 99, PERSON, PERSON, CHILD);
        edge.owe(x, 0, 1, 10);
        edge.owe(x, 2, 0, owedByChild);
        return x;
    }

    @Sentence(promise = 17, words = "behind how many WEEKS (0 to 40)")
    static void ruinedBehindFortyWeeks() {
        edge.due("99 and 13: NET of -1 behind 39", ruinedLate(13).ruin(0), 39);
        edge.due("99 and 14: NET of 0 behind 39", ruinedLate(14).ruin(0), 40);
        edge.due("99 and 24: NET of -1 behind 40", ruinedLate(24).ruin(0), 40);
    }

    @Sentence(promise = 17, words = "none")
    static void ruinedBehindFortyOneWeeksIsNone() {
        ThanksOwed x = ruinedLate(25);
        edge.due("99 and 25: NET of 0 behind 40", x.ruin(0), NONE);
        x.week();
        edge.due("a week later", x.ruin(0), 40);
    }

    @Sentence(promise = 17, words = "one is RUINED first")
    static void ruinedFirstAndNotLater() {
        // 0 OWES 10, 15, 22, 33, 49, 73; the widow is owed 10, 10, 10, 20, 40, 80.
        ThanksOwed x = edge.town("5d00", 0, WIDOW, PERSON, PERSON);
        edge.owe(x, 0, 1, 10);
        edge.law(x, "5d20");
        edge.owe(x, 2, 0, 10);
        edge.due("ruin(0)", x.ruin(0), 1);
        edge.weeks(x, 5);
        edge.due("NET behind five weeks", x.about(0, 4), 7);
        edge.due("ruin(0) then", x.ruin(0), NONE);
    }

    @Sentence(promise = 17, words = "What one OWES another one is 0 to 9999 (what is above is lost)")
    static void ruinWithTheGreatestDebt() {
        ThanksOwed x = edge.town("9u00", 9, PERSON, PERSON, CHILD);
        edge.owe(x, 0, 1, 9990);
        edge.owe(x, 2, 0, 9990);
        edge.due("NET of 9, then of 0 for ever", x.ruin(0), NONE);
        edge.due("pay(0, 1, 1)", x.pay(0, 1, 1), 9989);
        edge.due("NET of 9, then of -1", x.ruin(0), 1);
    }

    @Sentence(promise = 17, words = "that pass with nothing else")
    static void ruinChangesNothing() {
        edge.changesNothing(edge::rich, "ruin(0)", x -> x.ruin(0));
        edge.changesNothing(() -> ruinedLate(25), "ruin(0)", x -> x.ruin(0));
    }

    @Sentence(promise = 17, words = "RUIN; NONE")
    static void ruinOfOneAlone() {
        ThanksOwed x = edge.town("9u00", 0, PERSON);
        edge.due("ruin(0)", x.ruin(0), NONE);
    }

    // ---- 18 settling

    @Sentence(promise = 18, words = "the fewest payments")
    static void settlingOfNobody() {
        edge.due("nobody", new ThanksOwed().settling(), 0);
        edge.due("one alone", edge.town("1u00", 9, PERSON).settling(), 0);
    }

    @Sentence(promise = 18, words = "the fewest payments")
    static void settlingOfNothingOwed() {
        edge.due("nothing OWED", fivePersons().settling(), 0);
    }

    @Sentence(promise = 18, words = "as he OWES all more than all OWE him now")
    static void settlingOfWhatEvensOut() {
        ThanksOwed x = fivePersons();
        edge.owe(x, 0, 1, 50);
        edge.owe(x, 1, 0, 50);
        edge.due("two", x.settling(), 0);
        for (int n = 0; n < 5; n++) {
            edge.owe(x, n, (n + 1) % 5, 7);
        }
        edge.due("and a ring of five", x.settling(), 0);
        edge.owe(x, 0, 1, 1);
        edge.due("but for 1", x.settling(), 1);
    }

    @Sentence(promise = 18, words = "of any sum by one to another one each")
    static void onePaymentOfTheGreatestSum() {
        ThanksOwed x = edge.town("9u00", 0, PERSON, WIDOW);
        edge.owe(x, 0, 1, 99);
        edge.weeks(x, 6);
        edge.due("9999", x.settling(), 1);
    }

    /** By how many payments all is settled when each debt is of one who OWES, one who is owed, and a sum. */
    private static void settles(int[][] debts, int payments) {
        ThanksOwed x = fivePersons();
        StringBuilder told = new StringBuilder("settling() of");
        for (int[] debt : debts) {
            edge.owe(x, debt[0], debt[1], debt[2]);
            told.append(" ").append(debt[0]).append(">").append(debt[1]).append(":").append(debt[2]);
        }
        edge.due(told.toString(), x.settling(), payments);
    }

    @Sentence(promise = 18, words = "the fewest payments")
    static void mostPaymentsOfFive() {
        settles(new int[][] {{0, 1, 1}, {0, 2, 2}, {0, 3, 3}, {0, 4, 4}}, 4);
        settles(new int[][] {{1, 0, 1}, {2, 0, 2}, {3, 0, 3}, {4, 0, 4}}, 4);
        settles(new int[][] {{0, 1, 1}, {0, 2, 2}, {0, 3, 3}}, 3);
    }

    @Sentence(promise = 18, words = "the fewest payments")
    static void groupsThatEvenOut() {
        settles(new int[][] {{0, 1, 10}, {2, 3, 7}}, 2);
        settles(new int[][] {{0, 1, 10}, {2, 3, 7}, {2, 1, 1}}, 3);
        settles(new int[][] {{0, 1, 10}, {2, 3, 7}, {2, 4, 7}}, 3);
        settles(new int[][] {{0, 1, 10}, {2, 3, 7}, {4, 1, 1}}, 3);
        settles(new int[][] {{0, 1, 10}, {2, 3, 7}, {4, 1, 1}, {0, 3, 2}}, 4);
    }

    @Sentence(promise = 18, words = "the fewest payments")
    static void groupsThatDebtsDoNotShow() {
        // 0 OWES 5 and 1 OWES 3 in all, 2 is owed 3 and 3 is owed 5: as two pairs, though nobody OWES so.
        settles(new int[][] {{0, 2, 3}, {0, 3, 2}, {1, 3, 3}}, 2);
        settles(new int[][] {{0, 2, 3}, {0, 3, 2}, {1, 3, 4}}, 3);
        // A row of debts of the same sum is one payment.
        settles(new int[][] {{0, 1, 9}, {1, 2, 9}, {2, 3, 9}, {3, 4, 9}}, 1);
    }

    @Sentence(promise = 18, words = "(WEALTH does not matter)")
    static void settlingWithoutWealth() {
        int[] wealth = {0, 50, 99};
        for (int each : wealth) {
            ThanksOwed x = edge.town("1u00", each, PERSON, SAINT, WIDOW);
            edge.owe(x, 0, 1, 99);
            edge.owe(x, 0, 2, 98);
            edge.due("WEALTH " + each, x.settling(), 2);
        }
    }

    @Sentence(promise = 18, words = "SETTLING")
    static void settlingChangesNothing() {
        edge.changesNothing(edge::rich, "settling()", x -> x.settling());
        edge.changesNothing(ThanksOwed::new, "settling() of nobody", x -> x.settling());
    }

    // ---- 19 bestRing

    @Sentence(promise = 19, words = "OUTSIDE")
    static void ringWhats() {
        int[] inside = {0, 1, 10, 11, 12, 13};
        for (int what : inside) {
            edge.isNot("bestRing(" + what + ")", edge.rich().bestRing(what), OUTSIDE);
        }
        int[] outside = {Integer.MIN_VALUE, -1, 2, 3, 4, 5, 6, 7, 8, 9, 14, 15, Integer.MAX_VALUE};
        for (int what : outside) {
            edge.refuses(edge::rich, "bestRing(" + what + ")", x -> x.bestRing(what), OUTSIDE);
            edge.refuses(ThanksOwed::new, "nobody's bestRing(" + what + ")", x -> x.bestRing(what), OUTSIDE);
        }
    }

    private static void best(ThanksOwed x, int together, int... row) {
        edge.due("bestRing(0)", x.bestRing(0), together);
        edge.due("bestRing(1)", x.bestRing(1), row.length);
        for (int place = 0; place < 4; place++) {
            edge.due("bestRing(1" + place + ")", x.bestRing(10 + place), place < row.length ? row[place] : NONE);
        }
    }

    private static ThanksOwed withRings(int[]... rings) {
        ThanksOwed x = fivePersons();
        addRings(x, rings);
        return x;
    }

    /** The first of each row is what is OWED, the others OWE it, each the next one, the last the first. */
    private static void addRings(ThanksOwed x, int[]... rings) {
        for (int[] ring : rings) {
            for (int n = 1; n < ring.length; n++) {
                edge.owe(x, ring[n], n + 1 < ring.length ? ring[n + 1] : ring[1], ring[0]);
            }
        }
    }

    @Sentence(promise = 19, words = "how much is taken off together (0: none), 1 how many PEOPLE (0: none)")
    static void noRing() {
        best(new ThanksOwed(), 0);
        best(edge.town("1u00", 9, PERSON), 0);
        best(fivePersons(), 0);
        ThanksOwed x = fivePersons();
        edge.owe(x, 0, 1, 99);
        edge.owe(x, 1, 2, 99);
        edge.owe(x, 2, 3, 99);
        best(x, 0);
    }

    @Sentence(promise = 19, words = "of two to four unlike PEOPLE")
    static void ringsOfTwoToFour() {
        best(withRings(new int[] {1, 3, 4}), 2, 3, 4);
        best(withRings(new int[] {1, 4, 3, 2}), 3, 2, 4, 3);
        best(withRings(new int[] {1, 4, 3, 2, 1}), 4, 1, 4, 3, 2);
    }

    @Sentence(promise = 19, words = "of two to four unlike PEOPLE")
    static void nobodyIsTwiceInARing() {
        // 0, 1, 2, 1 is a way round, of four debts of 5, but not of unlike people.
        best(withRings(new int[] {5, 0, 1}, new int[] {5, 1, 2}), 10, 0, 1);
        best(withRings(new int[] {5, 1, 2}, new int[] {4, 2, 3}, new int[] {4, 3, 4}), 10, 1, 2);
    }

    @Sentence(promise = 19, words = "how much is taken off together (0: none), 1 how many PEOPLE (0: none)")
    static void noRingAnyMore() {
        ThanksOwed x = withRings(new int[] {5, 0, 1}, new int[] {4, 1, 2, 3, 4});
        best(x, 16, 1, 2, 3, 4);
        edge.due("forgive(4, 3)", x.forgive(4, 3), 4);
        best(x, 10, 0, 1);
        edge.due("setOff(0, 1)", x.setOff(0, 1), 5);
        best(x, 0);
    }

    @Sentence(promise = 19, words = "of two to four unlike PEOPLE")
    static void noRingOfFive() {
        best(withRings(new int[] {9, 0, 1, 2, 3, 4}), 0);
        // 2 and 4 OWE each other 1: that is in rings of two, three (with 3) and four (with 0 and 1).
        best(withRings(new int[] {9, 0, 1, 2, 3, 4}, new int[] {1, 2, 4}), 4, 0, 1, 2, 4);
    }

    @Sentence(promise = 19, words = "by which most is taken off all of them together")
    static void mostTogether() {
        best(withRings(new int[] {5, 0, 1}, new int[] {6, 2, 3}), 12, 2, 3);
        best(withRings(new int[] {5, 0, 1}, new int[] {4, 2, 3, 4}), 12, 2, 3, 4);
        best(withRings(new int[] {7, 0, 1}, new int[] {4, 2, 3, 4}), 14, 0, 1);
        best(withRings(new int[] {6, 0, 4}, new int[] {4, 0, 1, 2, 3}), 16, 0, 1, 2, 3);
        best(withRings(new int[] {5, 0, 1, 4}, new int[] {4, 3, 2, 1, 0}), 16, 0, 3, 2, 1);
    }

    @Sentence(promise = 19, words = "of like ones fewer PEOPLE")
    static void likeRingsOfFewer() {
        best(withRings(new int[] {6, 3, 4}, new int[] {4, 0, 1, 2}), 12, 3, 4);
        best(withRings(new int[] {8, 3, 4}, new int[] {4, 0, 3, 2, 1}), 16, 3, 4);
        best(withRings(new int[] {4, 2, 3, 4}, new int[] {3, 0, 1, 2, 4}), 12, 2, 3, 4);
    }

    @Sentence(promise = 19, words = "then the first by numbers")
    static void likeRingsByNumbers() {
        best(withRings(new int[] {5, 3, 4}, new int[] {5, 0, 2}, new int[] {5, 0, 1}), 10, 0, 1);
        best(withRings(new int[] {5, 3, 4}, new int[] {5, 1, 2}), 10, 1, 2);
        best(withRings(new int[] {5, 0, 3, 2}, new int[] {5, 0, 1, 4}), 15, 0, 1, 4);
        best(withRings(new int[] {5, 1, 2, 4}, new int[] {5, 0, 2, 3}), 15, 0, 2, 3);
        best(withRings(new int[] {5, 0, 2, 4, 1}, new int[] {5, 0, 2, 3, 4}), 20, 0, 2, 3, 4);
    }

    @Sentence(promise = 19, words = "beginning with the least of them")
    static void ringBeginsWithTheLeast() {
        best(withRings(new int[] {5, 4, 2}), 10, 2, 4);
        best(withRings(new int[] {5, 4, 2, 3}), 15, 2, 3, 4);
        best(withRings(new int[] {5, 4, 3, 2}), 15, 2, 4, 3);
        best(withRings(new int[] {5, 3, 2, 4, 1}), 20, 1, 3, 2, 4);
    }

    @Sentence(promise = 19, words = "What one OWES another one is 0 to 9999")
    static void greatestRing() {
        ThanksOwed x = edge.town("9u00", 0, WIDOW, WIDOW, WIDOW, WIDOW);
        addRings(x, new int[] {99, 0, 1, 2, 3});
        edge.weeks(x, 6);
        best(x, 39996, 0, 1, 2, 3);
    }

    @Sentence(promise = 19, words = "10 to 13 the so-manieth of them (NONE)")
    static void placesBehindTheRing() {
        ThanksOwed two = withRings(new int[] {5, 0, 1});
        edge.due("11 of two", two.bestRing(11), 1);
        edge.due("12 of two", two.bestRing(12), NONE);
        edge.due("13 of two", two.bestRing(13), NONE);
        ThanksOwed three = withRings(new int[] {5, 0, 1, 2});
        edge.due("12 of three", three.bestRing(12), 2);
        edge.due("13 of three", three.bestRing(13), NONE);
        ThanksOwed four = withRings(new int[] {5, 0, 1, 2, 3});
        edge.due("10 of four", four.bestRing(10), 0);
        edge.due("13 of four", four.bestRing(13), 3);
        edge.due("10 of none", fivePersons().bestRing(10), NONE);
    }

    @Sentence(promise = 19, words = "BEST RING")
    static void bestRingChangesNothing() {
        int[] whats = {0, 1, 10, 13};
        for (int what : whats) {
            edge.changesNothing(edge::rich, "bestRing(" + what + ")", x -> x.bestRing(what));
        }
    }

    // ---- 20 offer

    @Sentence(promise = 20, words = "UNKNOWN: from, to")
    static void offerOfUnknownPeople() {
        edge.range(edge::rich, "offer(from, 1, 5)", (x, n) -> x.offer(n, 1, 5), 0, 3, UNKNOWN);
        edge.range(edge::rich, "offer(1, to, 5)", (x, n) -> x.offer(1, n, 5), 0, 3, UNKNOWN);
        edge.refuses(ThanksOwed::new, "offer(0, 1, 5)", x -> x.offer(0, 1, 5), UNKNOWN);
    }

    @Sentence(promise = 20, words = "or they are the same")
    static void offerToOneself() {
        for (int n = 0; n < 4; n++) {
            int same = n;
            edge.refuses(edge::rich, "offer(n, n, 5) of " + n, x -> x.offer(same, same, 5), UNKNOWN);
        }
    }

    @Sentence(promise = 20, words = "OUTSIDE: size")
    static void offerSizes() {
        edge.range(edge::rich, "offer(0, 1, size)", (x, n) -> x.offer(0, 1, n), 1, 99, OUTSIDE);
    }

    @Sentence(promise = 20, words = "how many there are")
    static void offersFromTheFirstToTheSixth() {
        ThanksOwed x = edge.town("1u00", 0, PERSON, PERSON);
        for (int n = 1; n <= 6; n++) {
            edge.due("offer(0, 1, 99)", x.offer(0, 1, 99), n);
            edge.due("count(7)", x.count(7), n);
        }
    }

    @Sentence(promise = 20, words = "FULL")
    static void seventhOffer() {
        edge.refuses(edge::full, "offer(0, 1, 1)", x -> x.offer(0, 1, 1), FULL);
    }

    @Sentence(promise = 20, words = "OFFERS (6 at most)")
    static void fullNoMore() {
        ThanksOwed x = edge.full();
        edge.due("forget()", x.forget(), 6);
        for (int n = 1; n <= 6; n++) {
            edge.due("offer(0, 1, 5)", x.offer(0, 1, 5), n);
        }
        edge.due("a seventh", x.offer(0, 1, 5), FULL);
    }

    @Sentence(promise = 20, words = "UNKNOWN: from, to, or they are the same; OUTSIDE: size")
    static void offerUnknownAheadOfOutside() {
        edge.refuses(edge::rich, "offer(4, 0, 0)", x -> x.offer(4, 0, 0), UNKNOWN);
        edge.refuses(edge::rich, "offer(0, -1, 100)", x -> x.offer(0, -1, 100), UNKNOWN);
        edge.refuses(edge::rich, "offer(1, 1, 0)", x -> x.offer(1, 1, 0), UNKNOWN);
    }

    @Sentence(promise = 20, words = "UNKNOWN: from, to, or they are the same; OUTSIDE: size; FULL")
    static void offerUnknownAheadOfFull() {
        edge.refuses(edge::full, "offer(5, 0, 1)", x -> x.offer(5, 0, 1), UNKNOWN);
        edge.refuses(edge::full, "offer(0, 5, 1)", x -> x.offer(0, 5, 1), UNKNOWN);
        edge.refuses(edge::full, "offer(2, 2, 1)", x -> x.offer(2, 2, 1), UNKNOWN);
    }

    @Sentence(promise = 20, words = "OUTSIDE: size; FULL")
    static void offerOutsideAheadOfFull() {
        edge.refuses(edge::full, "offer(0, 1, 0)", x -> x.offer(0, 1, 0), OUTSIDE);
        edge.refuses(edge::full, "offer(0, 1, 100)", x -> x.offer(0, 1, 100), OUTSIDE);
    }

    @Sentence(promise = 20, words = "a FAVOUR of a size by somebody for one, told beforehand")
    static void offerIsNoFavour() {
        ThanksOwed x = edge.town("1u99", 0, PERSON, GRUNTER, SAINT);
        x.favour(0, 1, 5, false);
        edge.due("by one OFFENDED, for one who never thanks", x.offer(0, 1, 5), 1);
        edge.due("for a SAINT", x.offer(1, 2, 5), 2);
        edge.due("nothing is OWED", x.count(8), 0);
        edge.due("nothing is FREE", x.between(1, 0, 1), 0);
        edge.due("the SAINT's helper is not OFFENDED", x.between(1, 2, 2), 0);
    }

    // ---- 21 forget

    @Sentence(promise = 21, words = "how many there were")
    static void forgetNone() {
        edge.due("forget()", new ThanksOwed().forget(), 0);
        edge.changesNothing(ThanksOwed::new, "forget()", x -> x.forget());
    }

    @Sentence(promise = 21, words = "how many there were")
    static void forgetFromOneToSix() {
        for (int n = 1; n <= 6; n++) {
            ThanksOwed x = edge.town("1u00", 0, PERSON, PERSON);
            for (int offer = 0; offer < n; offer++) {
                x.offer(0, 1, 9);
            }
            edge.due("forget() of " + n, x.forget(), n);
            edge.due("forget() again", x.forget(), 0);
        }
    }

    @Sentence(promise = 21, words = "All OFFERS are gone")
    static void forgottenOffersAreGone() {
        ThanksOwed x = edge.full();
        x.forget();
        edge.due("count(7)", x.count(7), 0);
        for (int person = 0; person < 5; person++) {
            edge.due("accept(" + person + ", 1, 0, 0)", x.accept(person, 1, 0, 0), NONE);
        }
        x.offer(1, 0, 3);
        edge.due("the new one alone", x.accept(0, 3, 0, 0), 1);
        edge.due("not those before", x.accept(0, 4, 0, 0), NONE);
    }
}
