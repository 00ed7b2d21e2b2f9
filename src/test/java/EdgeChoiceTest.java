import java.math.BigInteger;

/** Promises 22 to 24 sentence by sentence: which offers to accept, from what a debt has grown, years by a seed. */
public final class EdgeChoiceTest {
    private static final int PERSON = 0, CHILD = 1, WIDOW = 2, GRUNTER = 3, SAINT = 4;
    private static final int NONE = ThanksOwed.NONE, UNKNOWN = ThanksOwed.UNKNOWN, OUTSIDE = ThanksOwed.OUTSIDE;
    private static final int STATE = ThanksOwed.STATE;
    private static final Edge edge = new Edge();

    public static void main(String[] args) {
        edge.run(EdgeChoiceTest.class);
    }

    // ---- 22 accept

    @Sentence(promise = 22, words = "UNKNOWN")
    static void acceptOfUnknownPeople() {
        edge.range(edge::rich, "accept(person, 1, 0, 0)", (x, n) -> x.accept(n, 1, 0, 0), 0, 3, UNKNOWN);
        edge.refuses(ThanksOwed::new, "accept(0, 1, 0, 0)", x -> x.accept(0, 1, 0, 0), UNKNOWN);
    }

    @Sentence(promise = 22, words = "a need (1 to 500)")
    static void needs() {
        edge.range(edge::rich, "accept(0, need, 0, 0)", (x, n) -> x.accept(0, n, 0, 0), 1, 500, OUTSIDE);
    }

    @Sentence(promise = 22, words = "so many WEEKS (0 to 20)")
    static void acceptWeeks() {
        edge.range(edge::rich, "accept(0, 1, weeks, 0)", (x, n) -> x.accept(0, 1, n, 0), 0, 20, OUTSIDE);
    }

    @Sentence(promise = 22, words = "OUTSIDE: need, weeks, what")
    static void acceptWhat() {
        edge.range(edge::rich, "accept(0, 1, 0, what)", (x, n) -> x.accept(0, 1, 0, n), 0, 1, OUTSIDE);
    }

    @Sentence(promise = 22, words = "UNKNOWN; OUTSIDE: need, weeks, what")
    static void acceptUnknownAheadOfOutside() {
        edge.refuses(edge::rich, "accept(4, 0, 0, 0)", x -> x.accept(4, 0, 0, 0), UNKNOWN);
        edge.refuses(edge::rich, "accept(4, 1, 21, 0)", x -> x.accept(4, 1, 21, 0), UNKNOWN);
        edge.refuses(edge::rich, "accept(-1, 1, 0, 2)", x -> x.accept(-1, 1, 0, 2), UNKNOWN);
    }

    private static void accepts(ThanksOwed x, int person, int need, int weeks, int bits, int owed) {
        String told = "accept(" + person + ", " + need + ", " + weeks + ", ";
        edge.due(told + "0)", x.accept(person, need, weeks, 0), bits);
        edge.due(told + "1)", x.accept(person, need, weeks, 1), owed);
    }

    /** Two people, and offers of these sizes by 1 for 0. */
    private static ThanksOwed offered(String law, int... sizes) {
        ThanksOwed x = edge.town(law, 0, PERSON, PERSON, PERSON);
        for (int size : sizes) {
            x.offer(1, 0, size);
        }
        return x;
    }

    @Sentence(promise = 22, words = "none")
    static void noOffer() {
        ThanksOwed x = edge.town("1u00", 9, PERSON, PERSON);
        edge.owe(x, 0, 1, 5);
        accepts(x, 0, 1, 0, NONE, NONE);
    }

    @Sentence(promise = 22, words = "which of the OFFERS for him")
    static void offersForOthers() {
        ThanksOwed x = edge.town("1u00", 0, PERSON, PERSON, PERSON);
        x.offer(0, 1, 50);
        x.offer(2, 1, 60);
        accepts(x, 0, 1, 0, NONE, NONE);
        x.offer(2, 0, 7);
        accepts(x, 0, 7, 0, 4, 7);
        accepts(x, 0, 8, 0, NONE, NONE);
        accepts(x, 1, 51, 0, 2, 60);
    }

    @Sentence(promise = 22, words = "so that their sizes are the need together, or more")
    static void sizesAreTheNeedOrMore() {
        ThanksOwed x = offered("0u00", 10, 20);
        accepts(x, 0, 1, 0, 1, 10);
        accepts(x, 0, 10, 0, 1, 10);
        accepts(x, 0, 11, 0, 2, 20);
        accepts(x, 0, 20, 0, 2, 20);
        accepts(x, 0, 21, 0, 3, 30);
        accepts(x, 0, 30, 0, 3, 30);
        accepts(x, 0, 31, 0, NONE, NONE);
    }

    @Sentence(promise = 22, words = "a need (1 to 500)")
    static void leastAndGreatestNeed() {
        accepts(offered("0u00", 1), 0, 1, 0, 1, 1);
        ThanksOwed x = offered("0u00", 99, 99, 99, 99, 99, 99);
        accepts(x, 0, 1, 0, 1, 99);
        accepts(x, 0, 495, 0, 31, 495);
        accepts(x, 0, 496, 0, 63, 594);
        accepts(x, 0, 500, 0, 63, 594);
        accepts(offered("0u00", 99, 99, 99, 99, 99, 5), 0, 500, 0, 63, 500);
        accepts(offered("0u00", 99, 99, 99, 99, 99, 4), 0, 500, 0, NONE, NONE);
    }

    @Sentence(promise = 22, words = "OFFERS (6 at most)")
    static void sixthOfferAlone() {
        accepts(offered("0u00", 1, 1, 1, 1, 1, 99), 0, 50, 0, 32, 99);
    }

    @Sentence(promise = 22, words = "so many WEEKS (0 to 20)")
    static void owedBehindNoneToTwentyWeeks() {
        // 1, by a tenth rounded up: 11 behind 10 weeks, 33 behind 19, 37 behind 20.
        ThanksOwed x = offered("1u00", 1);
        accepts(x, 0, 1, 0, 1, 1);
        accepts(x, 0, 1, 1, 1, 2);
        accepts(x, 0, 1, 10, 1, 11);
        accepts(x, 0, 1, 19, 1, 33);
        accepts(x, 0, 1, 20, 1, 37);
    }

    @Sentence(promise = 22, words = "and what he OWES all behind these WEEKS (what he OWES now, too) is least")
    static void owedIsLeast() {
        // The widow's 10 are 12 behind a week, the other's 11 are 13, the saint's 12 are 12.
        ThanksOwed x = edge.town("1u00", 0, PERSON, WIDOW, PERSON, SAINT);
        x.offer(1, 0, 10);
        x.offer(2, 0, 11);
        x.offer(3, 0, 12);
        accepts(x, 0, 10, 0, 1, 10);
        accepts(x, 0, 11, 0, 2, 11);
        accepts(x, 0, 10, 1, 1, 12);
        accepts(x, 0, 10, 2, 4, 12);
        accepts(x, 0, 11, 1, 4, 12);
    }

    @Sentence(promise = 22, words = "(what he OWES now, too)")
    static void whatHeOwesNow() {
        ThanksOwed x = edge.town("1u00", 0, PERSON, PERSON, PERSON);
        edge.owe(x, 0, 2, 10);
        edge.owe(x, 0, 1, 5);
        edge.owe(x, 1, 0, 77);
        x.offer(1, 0, 5);
        accepts(x, 0, 5, 0, 1, 20);
        accepts(x, 0, 5, 1, 1, 22);
    }

    @Sentence(promise = 22, words = "of like ones the fewest")
    static void likeOnesTheFewest() {
        accepts(offered("0u00", 5, 5, 10), 0, 10, 0, 4, 10);
        accepts(offered("0u00", 2, 3, 5, 4, 6), 0, 10, 0, 24, 10);
        // Both are lost above 9999 behind the weeks: one is fewer than two, and the least.
        accepts(offered("9u00", 98, 1, 99), 0, 99, 20, 4, 9999);
    }

    @Sentence(promise = 22, words = "then the least bits")
    static void likeOnesTheLeastBits() {
        accepts(offered("0u00", 7, 7, 7), 0, 7, 0, 1, 7);
        accepts(offered("0u00", 7, 7, 7), 0, 14, 0, 3, 14);
        accepts(offered("0u00", 3, 4, 6, 1), 0, 7, 0, 3, 7);
        accepts(offered("0u00", 6, 3, 4, 1), 0, 7, 0, 6, 7);
        accepts(offered("9u00", 1, 99), 0, 1, 20, 1, 9999);
    }

    @Sentence(promise = 22, words = "is least: of like ones the fewest")
    static void leastAheadOfFewest() {
        accepts(offered("0u00", 11, 5, 5), 0, 10, 0, 6, 10);
        accepts(offered("0u00", 98, 1, 1, 1, 1, 1), 0, 5, 0, 62, 5);
    }

    @Sentence(promise = 22, words = "as if he could THANK")
    static void asIfHeCouldThank() {
        int[] kinds = {GRUNTER, SAINT};
        for (int kind : kinds) {
            ThanksOwed x = edge.town("1u00", 0, kind, PERSON);
            x.offer(1, 0, 10);
            accepts(x, 0, 10, 2, 1, 13);
        }
    }

    @Sentence(promise = 22, words = "and nobody were OFFENDED")
    static void asIfNobodyWereOffended() {
        ThanksOwed x = edge.town("1u09", 0, PERSON, PERSON);
        x.offer(1, 0, 10);
        x.favour(1, 0, 5, false);
        edge.due("OFFENDED", x.between(1, 0, 2), 9);
        accepts(x, 0, 10, 2, 1, 13);
    }

    @Sentence(promise = 22, words = "What one OWES another one is 0 to 9999 (what is above is lost)")
    static void acceptedAboveTheGreatestDebt() {
        ThanksOwed x = edge.town("1u00", 0, PERSON, PERSON, PERSON);
        edge.owe(x, 0, 1, 9950);
        x.offer(1, 0, 49);
        x.offer(1, 0, 50);
        x.offer(2, 0, 48);
        accepts(x, 0, 49, 0, 1, 9999);
        accepts(x, 0, 50, 0, 2, 9999);
        accepts(x, 0, 51, 0, 3, 9999);
        accepts(x, 0, 100, 0, 7, 10047);
        // Behind the weeks both are lost above: 9999 now, too.
        accepts(x, 0, 1, 1, 1, 9999);
        accepts(x, 0, 100, 1, 7, 10052);
    }

    @Sentence(promise = 22, words = "does not grow for FREE WEEKS from then on (as many still, if that was more)")
    static void acceptedIsFree() {
        ThanksOwed x = offered("1u30", 10);
        accepts(x, 0, 10, 3, 1, 10);
        accepts(x, 0, 10, 4, 1, 11);
        edge.owe(x, 0, 1, 10);
        x.week();
        accepts(x, 0, 10, 3, 1, 20);
        accepts(x, 0, 10, 4, 1, 22);
        edge.law(x, "1u10");
        accepts(x, 0, 10, 2, 1, 20);
        accepts(x, 0, 10, 3, 1, 22);
    }

    @Sentence(promise = 22, words = "also what he owed him before")
    static void acceptedLeastSizeMakesAllFree() {
        ThanksOwed x = edge.town("1u00", 0, PERSON, PERSON, PERSON);
        edge.owe(x, 2, 0, 10);
        edge.law(x, "1u20");
        x.offer(0, 2, 1);
        accepts(x, 2, 1, 2, 1, 11);
        accepts(x, 2, 1, 3, 1, 13);
    }

    @Sentence(promise = 22, words = "does not grow for FREE WEEKS from then on")
    static void acceptedFromAnotherLeavesItGrowing() {
        ThanksOwed x = edge.town("1u00", 0, PERSON, PERSON, PERSON);
        edge.owe(x, 0, 1, 10);
        edge.law(x, "1u50");
        x.offer(2, 0, 10);
        accepts(x, 0, 10, 2, 1, 10 + 13);
        edge.owe(x, 0, 1, 1);
        accepts(x, 0, 10, 2, 1, 10 + 11);
        accepts(x, 0, 10, 5, 1, 10 + 11);
        accepts(x, 0, 10, 6, 1, 11 + 13);
    }

    @Sentence(promise = 22, words = "what a CHILD OWES does not")
    static void acceptedByAChild() {
        ThanksOwed x = edge.town("9u00", 0, CHILD, WIDOW);
        x.offer(1, 0, 99);
        accepts(x, 0, 99, 20, 1, 99);
    }

    @Sentence(promise = 22, words = "which, as bits, 1 what he OWES then")
    static void acceptChangesNothing() {
        edge.changesNothing(edge::rich, "accept(0, 5, 20, 0)", x -> x.accept(0, 5, 20, 0));
        edge.changesNothing(edge::rich, "accept(1, 500, 20, 1)", x -> x.accept(1, 500, 20, 1));
    }

    // ---- 23 grown

    @Sentence(promise = 23, words = "OUTSIDE: sum (0 to 9999)")
    static void grownSums() {
        edge.range(edge::rich, "grown(sum, 0, 0, 0, 0)", (x, n) -> x.grown(n, 0, 0, 0, 0), 0, 9999, OUTSIDE);
    }

    @Sentence(promise = 23, words = "so many WEEKS (0 to 40)")
    static void grownWeeks() {
        edge.range(edge::rich, "grown(5, weeks, 0, 0, 0)", (x, n) -> x.grown(5, n, 0, 0, 0), 0, 40, OUTSIDE);
    }

    @Sentence(promise = 23, words = "debtor, creditor (KINDS)")
    static void grownKinds() {
        edge.range(edge::rich, "grown(5, 0, debtor, 0, 0)", (x, n) -> x.grown(5, 0, n, 0, 0), 0, 4, OUTSIDE);
        edge.range(edge::rich, "grown(5, 0, 0, creditor, 0)", (x, n) -> x.grown(5, 0, 0, n, 0), 0, 4, OUTSIDE);
    }

    @Sentence(promise = 23, words = "(KINDS), what")
    static void grownWhat() {
        edge.range(edge::rich, "grown(5, 0, 0, 0, what)", (x, n) -> x.grown(5, 0, 0, 0, n), 0, 1, OUTSIDE);
    }

    private static ThanksOwed withLaw(String law) {
        ThanksOwed x = new ThanksOwed();
        edge.law(x, law);
        return x;
    }

    private static void isGrown(String law, int[] call, int sizes, int least) {
        ThanksOwed x = withLaw(law);
        String told = law + ": grown(" + call[0] + ", " + call[1] + ", " + call[2] + ", " + call[3] + ", ";
        edge.due(told + "0)", x.grown(call[0], call[1], call[2], call[3], 0), sizes);
        edge.due(told + "1)", x.grown(call[0], call[1], call[2], call[3], 1), least);
    }

    @Sentence(promise = 23, words = "from how many sizes (1 to 99)")
    static void leastAndGreatestSizes() {
        isGrown("1u00", new int[] {1, 0, PERSON, PERSON}, 1, 1);
        isGrown("1u00", new int[] {99, 0, PERSON, PERSON}, 1, 99);
        isGrown("1u00", new int[] {100, 0, PERSON, PERSON}, 0, NONE);
        isGrown("1u00", new int[] {2, 1, PERSON, PERSON}, 1, 1);
        isGrown("1u00", new int[] {109, 1, PERSON, PERSON}, 1, 99);
        isGrown("1u00", new int[] {110, 1, PERSON, PERSON}, 0, NONE);
        isGrown("9u00", new int[] {1, 1, PERSON, PERSON}, 0, NONE);
    }

    @Sentence(promise = 23, words = "sum (0 to 9999)")
    static void nothingHasGrownFromNoSize() {
        isGrown("1u00", new int[] {0, 0, PERSON, PERSON}, 0, NONE);
        isGrown("0d00", new int[] {0, 40, PERSON, PERSON}, 0, NONE);
        isGrown("9d00", new int[] {0, 1, CHILD, SAINT}, 0, NONE);
    }

    @Sentence(promise = 23, words = "What one OWES another one is 0 to 9999 (what is above is lost)")
    static void greatestDebtHasGrownFromMany() {
        isGrown("9u00", new int[] {9999, 40, PERSON, WIDOW}, 99, 1);
        isGrown("9u00", new int[] {9998, 40, PERSON, WIDOW}, 0, NONE);
        isGrown("9u00", new int[] {9999, 0, PERSON, WIDOW}, 0, NONE);
        // By 18 tenths: 60 is 168, 471, 1319, 3694, 10344 behind five weeks; 57 is 160, 448, 1255, 3514, 9840.
        isGrown("9u00", new int[] {9999, 5, PERSON, WIDOW}, 42, 58);
        isGrown("9u00", new int[] {9840, 5, PERSON, WIDOW}, 1, 57);
    }

    @Sentence(promise = 23, words = "in so many WEEKS (0 to 40)")
    static void grownInTheMostWeeks() {
        // 10, by a tenth rounded down: 259 behind 39 weeks, 284 behind 40.
        isGrown("1d00", new int[] {259, 39, PERSON, PERSON}, 1, 10);
        isGrown("1d00", new int[] {284, 40, PERSON, PERSON}, 1, 10);
        isGrown("1d00", new int[] {259, 40, PERSON, PERSON}, 0, NONE);
        isGrown("1d00", new int[] {9, 40, PERSON, PERSON}, 1, 9);
    }

    @Sentence(promise = 23, words = "FREE ones ahead")
    static void freeWeeksAhead() {
        for (int free = 0; free <= 9; free++) {
            String law = "1u" + free + "0";
            isGrown(law, new int[] {50, free, PERSON, PERSON}, 1, 50);
            isGrown(law, new int[] {55, free + 1, PERSON, PERSON}, 1, 50);
            isGrown(law, new int[] {61, free + 2, PERSON, PERSON}, 1, 50);
        }
        isGrown("9u90", new int[] {50, 0, PERSON, PERSON}, 1, 50);
        isGrown("9u90", new int[] {50, 8, PERSON, PERSON}, 1, 50);
    }

    @Sentence(promise = 23, words = "if he who OWES is of a KIND, he who is owed of a KIND")
    static void grownByKinds() {
        for (int debtor = PERSON; debtor <= SAINT; debtor++) {
            for (int creditor = PERSON; creditor <= SAINT; creditor++) {
                int times = debtor == CHILD || creditor == SAINT ? 0 : creditor == WIDOW ? 2 : 1;
                isGrown("3d00", new int[] {50 + times * 15, 1, debtor, creditor}, 1, 50);
            }
        }
    }

    @Sentence(promise = 23, words = "the least of these")
    static void leastOfSeveral() {
        isGrown("9d00", new int[] {9999, 40, PERSON, PERSON}, 98, 2);
        isGrown("9d00", new int[] {1, 40, PERSON, PERSON}, 1, 1);
    }

    @Sentence(promise = 23, words = "GROWN: what = 0 how many, 1 the least (NONE)")
    static void grownChangesNothing() {
        edge.changesNothing(edge::rich, "grown(9999, 40, 0, 2, 0)", x -> x.grown(9999, 40, 0, 2, 0));
        edge.changesNothing(ThanksOwed::new, "grown(0, 0, 0, 0, 1)", x -> x.grown(0, 0, 0, 0, 1));
    }

    // ---- 24 years

    @Sentence(promise = 24, words = "OUTSIDE: weeks (1 to 60)")
    static void yearsWeeks() {
        edge.range(edge::rich, "years(weeks, 5, 0)", (x, n) -> x.years(n, 5, 0), 1, 60, OUTSIDE);
    }

    @Sentence(promise = 24, words = "seed (0 at least)")
    static void yearsSeed() {
        edge.range(edge::rich, "years(5, seed, 0)", (x, n) -> x.years(5, n, 0), 0, Integer.MAX_VALUE, OUTSIDE);
    }

    @Sentence(promise = 24, words = "seed (0 at least), what")
    static void yearsWhat() {
        edge.range(edge::rich, "years(5, 5, what)", (x, n) -> x.years(5, 5, n), 0, 2, OUTSIDE);
    }

    @Sentence(promise = 24, words = "STATE: there is nobody")
    static void yearsOfNobody() {
        for (int n = 0; n <= 2; n++) {
            int what = n;
            edge.refuses(ThanksOwed::new, "years(1, 0, " + n + ")", x -> x.years(1, 0, what), STATE);
            edge.refuses(edge::nobody, "years(60, 5, " + n + ")", x -> x.years(60, 5, what), STATE);
        }
        ThanksOwed x = new ThanksOwed();
        x.image();
        x.person(PERSON, 5);
        edge.due("with one", x.years(1, 0, 0), 0);
        x.restore();
        edge.due("with nobody again", x.years(1, 0, 0), STATE);
    }

    @Sentence(promise = 24, words = "OUTSIDE: weeks (1 to 60), seed (0 at least), what; STATE")
    static void yearsOutsideAheadOfState() {
        edge.refuses(ThanksOwed::new, "years(0, 0, 0)", x -> x.years(0, 0, 0), OUTSIDE);
        edge.refuses(ThanksOwed::new, "years(61, 0, 0)", x -> x.years(61, 0, 0), OUTSIDE);
        edge.refuses(ThanksOwed::new, "years(1, -1, 0)", x -> x.years(1, -1, 0), OUTSIDE);
        edge.refuses(ThanksOwed::new, "years(1, 0, 3)", x -> x.years(1, 0, 3), OUTSIDE);
        edge.refuses(ThanksOwed::new, "years(1, 0, -1)", x -> x.years(1, 0, -1), OUTSIDE);
    }

    /** The SEED behind so many DRAWS, by numbers that have no greatest one. */
    private static int seedBehind(int seed, int draws) {
        BigInteger now = BigInteger.valueOf(seed);
        for (int n = 0; n < draws; n++) {
            now = now.multiply(BigInteger.valueOf(1103515245)).add(BigInteger.valueOf(12345)).mod(BigInteger.TWO.pow(31));
        }
        return now.intValueExact();
    }

    /** What the so-manieth DRAW (from 1) of a number is. */
    private static int drawn(int seed, int draws, int of) {
        return seedBehind(seed, draws) / 65536 % of;
    }

    @Sentence(promise = 24, words = "1103515245 times it and 12345, its rest by 2 to the 31")
    static void seedWrapsAround() {
        ThanksOwed x = edge.town("1u00", 0, PERSON);
        // 12345, then 1406932606, then 654583775.
        edge.due("from 0", x.years(1, 0, 2), 654583775);
        edge.due("from 0, by whole numbers", x.years(1, 0, 2), seedBehind(0, 3));
        int[] seeds = {1, 2, 65535, 65536, 1073741823, 1073741824, 2147483646, 2147483647};
        for (int seed : seeds) {
            edge.due("from " + seed, x.years(1, seed, 2), seedBehind(seed, 3));
        }
    }

    @Sentence(promise = 24, words = "so many WEEKS")
    static void fromOneToSixtyWeeks() {
        ThanksOwed x = edge.town("1u00", 0, PERSON);
        int[] weeks = {1, 2, 59, 60};
        for (int n : weeks) {
            edge.due("SEED behind " + n, x.years(n, 77, 2), seedBehind(77, 3 * n));
        }
    }

    @Sentence(promise = 24, words = "if they are unlike")
    static void oneAloneDoesNoFavour() {
        ThanksOwed x = edge.town("9u00", 0, PERSON);
        edge.due("all that is OWED", x.years(60, 5, 0), 0);
        edge.due("RUINED", x.years(60, 5, 1), 0);
        edge.due("no DRAW for thanks", x.years(60, 5, 2), seedBehind(5, 180));
    }

    /** The first SEED by which a and b of two people are drawn like this, and 1 or 0 behind the size. */
    private static int seedFor(int a, int b, int thanks) {
        int seed = 0;
        while (drawn(seed, 1, 2) != a || drawn(seed, 2, 2) != b || drawn(seed, 4, 2) != thanks) {
            seed++;
        }
        return seed;
    }

    @Sentence(promise = 24, words = "if they are unlike")
    static void likeOnesAreLeftOut() {
        ThanksOwed x = edge.town("9u00", 0, PERSON, PERSON);
        int seed = seedFor(1, 1, 1);
        edge.due("all that is OWED", x.years(1, seed, 0), 0);
        edge.due("three DRAWS", x.years(1, seed, 2), seedBehind(seed, 3));
    }

    @Sentence(promise = 24, words = "b THANKS, if a DRAW of 2 is 1, else he GRUNTS")
    static void thanksByADraw() {
        ThanksOwed x = edge.town("0u00", 0, PERSON, PERSON);
        int thanked = seedFor(0, 1, 1);
        edge.due("thanks", x.years(1, thanked, 0), drawn(thanked, 3, 9) + 1);
        edge.due("he who thanked is RUINED", x.years(1, thanked, 1), 1);
        edge.due("four DRAWS", x.years(1, thanked, 2), seedBehind(thanked, 4));
        int grunted = seedFor(0, 1, 0);
        edge.due("a grunt", x.years(1, grunted, 0), 0);
        edge.due("nobody is RUINED", x.years(1, grunted, 1), 0);
        edge.due("four DRAWS", x.years(1, grunted, 2), seedBehind(grunted, 4));
    }

    @Sentence(promise = 24, words = "a size by a DRAW of 9 (1 more than that)")
    static void leastAndGreatestDrawnSizes() {
        ThanksOwed x = edge.town("0u00", 0, PERSON, PERSON);
        for (int size = 1; size <= 9; size++) {
            int seed = 0;
            while (drawn(seed, 1, 2) != 0 || drawn(seed, 2, 2) != 1 || drawn(seed, 3, 9) != size - 1
                    || drawn(seed, 4, 2) != 1) {
                seed++;
            }
            edge.due("size " + size, x.years(1, seed, 0), size);
        }
    }

    @Sentence(promise = 24, words = "first, a, then b by a DRAW")
    static void firstAThenB() {
        ThanksOwed x = edge.town("0u00", 50, PERSON, SAINT);
        int forSaint = seedFor(0, 1, 1);
        edge.due("a saint never thanks", x.years(1, forSaint, 0), 0);
        int bySaint = seedFor(1, 0, 1);
        edge.due("a saint's favour is thanked for", x.years(1, bySaint, 0), drawn(bySaint, 3, 9) + 1);
    }

    @Sentence(promise = 24, words = "(one who never THANKS GRUNTS without a DRAW)")
    static void neverThanksWithoutADraw() {
        int[] kinds = {GRUNTER, SAINT};
        for (int kind : kinds) {
            ThanksOwed x = edge.town("9u00", 0, PERSON, kind);
            int seed = seedFor(0, 1, 1);
            edge.due("kind " + kind + " OWES nothing", x.years(1, seed, 0), 0);
            edge.due("kind " + kind + ": three DRAWS", x.years(1, seed, 2), seedBehind(seed, 3));
        }
    }

    @Sentence(promise = 24, words = "and a is not OFFENDED by b")
    static void offendedOnesAreLeftOut() {
        ThanksOwed x = edge.town("9u01", 0, PERSON, PERSON);
        int seed = seedFor(0, 1, 1);
        x.favour(0, 1, 5, false);
        edge.due("OFFENDED for its last week", x.between(0, 1, 2), 1);
        edge.due("nothing is OWED", x.years(1, seed, 0), 0);
        edge.due("three DRAWS", x.years(1, seed, 2), seedBehind(seed, 3));
        x.week();
        edge.due("OFFENDED no more", x.years(1, seed, 2), seedBehind(seed, 4));
    }

    @Sentence(promise = 24, words = "else he GRUNTS")
    static void gruntsOffendInYears() {
        ThanksOwed y = edge.town("0u03", 0, PERSON, PERSON);
        int twice = 0;
        while (drawn(twice, 1, 2) != 0 || drawn(twice, 2, 2) != 1 || drawn(twice, 4, 2) != 0
                || drawn(twice, 5, 2) != 0 || drawn(twice, 6, 2) != 1 || drawn(twice, 8, 2) != 1) {
            twice++;
        }
        edge.due("four DRAWS, then three, as 0 is OFFENDED", y.years(2, twice, 2), seedBehind(twice, 7));
        edge.due("and no thanks", y.years(2, twice, 0), 0);
        ThanksOwed z = edge.town("0u01", 0, PERSON, PERSON);
        edge.due("four each, as 0 is OFFENDED no more", z.years(2, twice, 2), seedBehind(twice, 8));
        edge.due("and thanks", z.years(2, twice, 0), drawn(twice, 7, 9) + 1);
        ThanksOwed saint = edge.town("0u03", 0, SAINT, PERSON);
        edge.due("four each, as a saint is never OFFENDED", saint.years(2, twice, 2), seedBehind(twice, 8));
    }

    @Sentence(promise = 24, words = "then a WEEK goes by")
    static void weekBehindTheFavour() {
        int seed = seedFor(0, 1, 1);
        int size = drawn(seed, 3, 9) + 1;
        ThanksOwed x = edge.town("9u00", 0, PERSON, PERSON);
        edge.due("it has grown", x.years(1, seed, 0), size + (9 * size + 9) / 10);
        ThanksOwed y = edge.town("9u10", 0, PERSON, PERSON);
        edge.due("its first week is FREE", y.years(1, seed, 0), size);
        ThanksOwed z = edge.town("9u00", 0, PERSON, PERSON);
        edge.owe(z, 1, 0, 99);
        edge.due("what was OWED before grows, too", z.years(1, seed, 0), 99 + size + (9 * (99 + size) + 9) / 10);
    }

    @Sentence(promise = 24, words = "a DRAW of how many PEOPLE there are")
    static void drawOfFivePeople() {
        // Only 4 is a person, so it alone may thank; a seed by which it is b, and one by which it is not.
        ThanksOwed x = edge.town("0u00", 0, SAINT, SAINT, SAINT, SAINT, PERSON);
        int seed = 0;
        while (drawn(seed, 1, 5) == 4 || drawn(seed, 2, 5) != 4 || drawn(seed, 4, 2) != 1) {
            seed++;
        }
        edge.due("the fifth thanks", x.years(1, seed, 0), drawn(seed, 3, 9) + 1);
        while (drawn(seed, 2, 5) != 3) {
            seed++;
        }
        edge.due("the fourth does not", x.years(1, seed, 0), 0);
    }

    @Sentence(promise = 24, words = "What one OWES another one is 0 to 9999 (what is above is lost)")
    static void greatestDebtsOfYears() {
        ThanksOwed x = edge.town("9u00", 0, PERSON, WIDOW);
        edge.owe(x, 0, 1, 99);
        edge.owe(x, 1, 0, 99);
        edge.due("both", x.years(60, 4, 0), 19998);
    }

    @Sentence(promise = 24, words = "YEARS by a SEED, as they would be")
    static void yearsChangeNothing() {
        edge.changesNothing(edge::rich, "years(60, 5, 0)", x -> x.years(60, 5, 0));
        edge.changesNothing(edge::full, "years(1, 0, 2)", x -> x.years(1, 0, 2));
    }

    @Sentence(promise = 24, words = "YEARS by a SEED, as they would be")
    static void sameSeedSameYears() {
        ThanksOwed x = edge.rich();
        for (int what = 0; what <= 2; what++) {
            long first = x.years(60, 2147483647, what);
            x.years(7, 3, what);
            edge.due("years(60, 2147483647, " + what + ") again", x.years(60, 2147483647, what), first);
        }
    }
}
