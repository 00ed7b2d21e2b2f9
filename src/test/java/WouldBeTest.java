/** Promises 17 to 24: ruin, settling, bestRing, offer, forget, accept, grown, years. */
public final class WouldBeTest {
    private static final int PERSON = 0, CHILD = 1, WIDOW = 2, GRUNTER = 3, SAINT = 4;
    private static final Check check = new Check();

    public static void main(String[] args) {
        promise17Ruin();
        promise17RuinLatest();
        promise18Settling();
        promise19BestRing();
        promise19BestRingOfLikeOnes();
        promise19BestRingOutside();
        promise20Offer();
        promise21Forget();
        promise22Accept();
        promise22AcceptOfLikeOnes();
        promise22AcceptAsIf();
        promise22AcceptOutside();
        promise23Grown();
        promise23GrownOutside();
        promise24Years();
        promise24YearsByKinds();
        promise24YearsOutside();
        check.end();
    }

    private static void promise17Ruin() {
        ThanksOwed x = check.town("1d00", 12, PERSON, PERSON, CHILD);
        check.owe(x, 0, 1, 10);
        check.owe(x, 2, 1, 12);
        long before = x.digest();
        check.due("10, 11, 12, 13: in the third week", x.ruin(0), 3);
        check.due("a creditor never", x.ruin(1), ThanksOwed.NONE);
        check.due("a child at NET 0 never", x.ruin(2), ThanksOwed.NONE);
        check.due("ruin(3)", x.ruin(3), ThanksOwed.UNKNOWN);
        check.due("ruin(-1)", x.ruin(-1), ThanksOwed.UNKNOWN);
        check.due("nothing has changed", x.digest(), before);
        check.law(x, "1d90");
        check.owe(x, 2, 0, 1);
        check.due("the child is now", x.ruin(2), 0);
        check.due("his creditor one week later", x.ruin(0), 4);
        check.owe(x, 0, 1, 1);
        check.due("11 of 12 and 1, FREE for 9 weeks: 12, 13, 14", x.ruin(0), 12);
    }

    private static void promise17RuinLatest() {
        // 10 grows by 1 a week (rounded down, below 20), then faster: 10 to 19 in nine weeks.
        ThanksOwed x = check.town("1d00", 99, PERSON, PERSON);
        check.owe(x, 0, 1, 10);
        int owed = 10;
        int weeks = 0;
        while (owed <= 99) {
            owed += owed / 10;
            weeks++;
        }
        check.due("from 10 to more than 99", x.ruin(0), weeks);
        // 9 FREE weeks, then 29 to 103, 113 behind 39, 124 behind 40, 136 behind 41; the child's debt stays.
        ThanksOwed y = check.town("1d90", 99, PERSON, PERSON, CHILD);
        check.owe(y, 0, 1, 10);
        check.owe(y, 2, 0, 13);
        check.due("more than 112 behind 39", y.ruin(0), 39);
        check.owe(y, 2, 0, 11);
        check.due("more than 123 behind 40", y.ruin(0), 40);
        check.owe(y, 2, 0, 1);
        check.due("more than 124 behind 41 is none", y.ruin(0), ThanksOwed.NONE);
    }

    private static void promise18Settling() {
        ThanksOwed x = new ThanksOwed();
        check.due("with nobody", x.settling(), 0);
        x.person(PERSON, 5);
        check.due("with one alone", x.settling(), 0);
        x = check.town("1u00", 0, PERSON, PERSON, PERSON, PERSON, PERSON);
        check.due("with nothing OWED", x.settling(), 0);
        check.owe(x, 0, 1, 10);
        check.due("one debt", x.settling(), 1);
        check.owe(x, 1, 0, 10);
        check.due("two that even out", x.settling(), 0);
        check.owe(x, 2, 3, 10);
        check.due("one debt again", x.settling(), 1);
        check.owe(x, 0, 1, 7);
        check.due("two apart", x.settling(), 2);
        check.owe(x, 4, 1, 1);
        check.due("two groups", x.settling(), 3);
        check.owe(x, 0, 3, 2);
        check.due("9, 10, 1 to 8, 12: no group evens out", x.settling(), 4);
        ThanksOwed y = check.town("1u00", 0, PERSON, PERSON, PERSON, PERSON, PERSON);
        check.owe(y, 0, 2, 6);
        check.owe(y, 0, 3, 4);
        check.owe(y, 1, 4, 4);
        check.due("10, 4 to 6, 4, 4", y.settling(), 3);
        check.owe(y, 1, 0, 4);
        check.due("6, 8 to 6, 4, 4", y.settling(), 3);
        check.owe(y, 4, 1, 8);
        check.due("6, 4 to 6, 4, and one even", y.settling(), 2);
        check.owe(y, 4, 2, 1);
        check.due("6, 5 to 7, 4, and one even", y.settling(), 3);
        long before = y.digest();
        y.settling();
        check.due("nothing has changed", y.digest(), before);
    }

    private static void best(ThanksOwed x, int together, int... row) {
        check.due("bestRing(0)", x.bestRing(0), together);
        check.due("bestRing(1)", x.bestRing(1), row.length);
        for (int place = 0; place < 4; place++) {
            check.due("bestRing(1" + place + ")", x.bestRing(10 + place), place < row.length ? row[place] : ThanksOwed.NONE);
        }
    }

    private static void promise19BestRing() {
        ThanksOwed x = new ThanksOwed();
        best(x, 0);
        x = check.town("1u00", 0, PERSON, PERSON, PERSON, PERSON, PERSON);
        check.owe(x, 0, 1, 50);
        best(x, 0);
        check.owe(x, 1, 0, 3);
        best(x, 6, 0, 1);
        check.owe(x, 4, 2, 5);
        check.owe(x, 2, 4, 4);
        best(x, 8, 2, 4);
        check.owe(x, 2, 0, 3);
        check.owe(x, 1, 2, 99);
        best(x, 9, 0, 1, 2);
        check.owe(x, 4, 3, 9);
        check.owe(x, 3, 1, 8);
        check.owe(x, 2, 4, 1);
        best(x, 20, 1, 2, 4, 3);
        check.due("a ring of three first", x.ring(2, 0, 1), 3);
        best(x, 20, 1, 2, 4, 3);
        check.due("what takes off less", x.setOff(2, 4), 5);
        best(x, 6, 0, 1);
        check.due("the last one is set off", x.setOff(1, 0), 3);
        best(x, 0);
    }

    private static void promise19BestRingOfLikeOnes() {
        ThanksOwed x = check.town("1u00", 0, PERSON, PERSON, PERSON, PERSON, PERSON);
        int[][] threes = {{3, 2}, {2, 4}, {4, 3}};
        for (int[] pair : threes) {
            check.owe(x, pair[0], pair[1], 4);
        }
        best(x, 12, 2, 4, 3);
        check.owe(x, 3, 4, 6);
        check.owe(x, 4, 3, 2);
        best(x, 12, 3, 4);
        check.owe(x, 1, 4, 6);
        check.owe(x, 4, 1, 6);
        best(x, 12, 1, 4);
        ThanksOwed y = check.town("1u00", 0, PERSON, PERSON, PERSON, PERSON);
        int[][] fours = {{0, 2}, {2, 3}, {3, 1}, {1, 0}, {0, 1}, {1, 3}, {3, 2}, {2, 0}};
        for (int[] pair : fours) {
            check.owe(y, pair[0], pair[1], 5);
        }
        best(y, 20, 0, 1, 3, 2);
        check.owe(y, 2, 3, 5);
        check.owe(y, 3, 2, 5);
        best(y, 20, 2, 3);
        ThanksOwed z = check.town("1u00", 0, PERSON, PERSON, PERSON, PERSON, PERSON);
        for (int person = 0; person < 5; person++) {
            check.owe(z, person, (person + 1) % 5, 9);
        }
        best(z, 0);
    }

    private static void promise19BestRingOutside() {
        ThanksOwed x = check.town("1u00", 0, PERSON, PERSON);
        int[] wrong = {-1, 2, 9, 14, Integer.MIN_VALUE, Integer.MAX_VALUE};
        for (int what : wrong) {
            check.due("bestRing(" + what + ")", x.bestRing(what), ThanksOwed.OUTSIDE);
        }
    }

    private static void promise20Offer() {
        ThanksOwed x = check.town("1u00", 0, PERSON, SAINT);
        check.due("size 1", x.offer(0, 1, 1), 1);
        check.due("size 99", x.offer(1, 0, 99), 2);
        check.due("nothing is OWED", x.count(8), 0);
        long before = x.digest();
        check.refused("offer(0, 0, 1)", x, before, x.offer(0, 0, 1), ThanksOwed.UNKNOWN);
        check.refused("offer(2, 0, 0)", x, before, x.offer(2, 0, 0), ThanksOwed.UNKNOWN);
        check.refused("offer(0, 2, 1)", x, before, x.offer(0, 2, 1), ThanksOwed.UNKNOWN);
        check.refused("offer(-1, 0, 1)", x, before, x.offer(-1, 0, 1), ThanksOwed.UNKNOWN);
        check.refused("size 0", x, before, x.offer(0, 1, 0), ThanksOwed.OUTSIDE);
        check.refused("size 100", x, before, x.offer(0, 1, 100), ThanksOwed.OUTSIDE);
        for (int n = 3; n <= 6; n++) {
            check.due("offer " + n, x.offer(0, 1, n), n);
        }
        before = x.digest();
        check.refused("a seventh", x, before, x.offer(0, 1, 1), ThanksOwed.FULL);
        check.refused("a seventh of size 0", x, before, x.offer(0, 1, 0), ThanksOwed.OUTSIDE);
        check.refused("a seventh by nobody", x, before, x.offer(5, 1, 1), ThanksOwed.UNKNOWN);
        check.due("count(7)", x.count(7), 6);
    }

    private static void promise21Forget() {
        ThanksOwed x = check.town("1u00", 0, PERSON, PERSON);
        check.due("forget() of none", x.forget(), 0);
        x.offer(0, 1, 5);
        x.offer(0, 1, 6);
        check.due("forget()", x.forget(), 2);
        check.due("count(7)", x.count(7), 0);
        check.due("none to accept", x.accept(1, 1, 0, 0), ThanksOwed.NONE);
        check.due("forget() again", x.forget(), 0);
        check.due("offer() behind it", x.offer(0, 1, 9), 1);
        check.due("the new one", x.accept(1, 1, 0, 1), 9);
    }

    private static void accepted(ThanksOwed x, int person, int need, int weeks, int bits, int owed) {
        String told = "accept(" + person + ", " + need + ", " + weeks + ", ";
        check.due(told + "0)", x.accept(person, need, weeks, 0), bits);
        check.due(told + "1)", x.accept(person, need, weeks, 1), owed);
    }

    private static void promise22Accept() {
        ThanksOwed x = check.town("1d00", 0, PERSON, WIDOW, SAINT, PERSON);
        check.owe(x, 0, 3, 10);
        x.offer(1, 0, 20);
        x.offer(1, 3, 30);
        x.offer(2, 0, 23);
        x.offer(3, 0, 21);
        long before = x.digest();
        accepted(x, 0, 1, 0, 1, 30);
        accepted(x, 0, 20, 0, 1, 30);
        accepted(x, 0, 21, 0, 8, 31);
        accepted(x, 0, 22, 0, 4, 33);
        // Behind one week: 24 and 11 by the widow, 23 and 11 by the saint, 34 by the other.
        accepted(x, 0, 20, 1, 4, 34);
        accepted(x, 0, 20, 2, 4, 23 + 12);
        accepted(x, 0, 41, 0, 1 | 8, 51);
        accepted(x, 0, 44, 0, 4 | 8, 54);
        accepted(x, 0, 64, 0, 1 | 4 | 8, 74);
        accepted(x, 0, 65, 0, ThanksOwed.NONE, ThanksOwed.NONE);
        accepted(x, 0, 500, 20, ThanksOwed.NONE, ThanksOwed.NONE);
        accepted(x, 3, 30, 1, 2, 36);
        accepted(x, 1, 1, 0, ThanksOwed.NONE, ThanksOwed.NONE);
        check.due("nothing has changed", x.digest(), before);
    }

    private static void promise22AcceptOfLikeOnes() {
        ThanksOwed x = check.town("0u00", 0, PERSON, PERSON, PERSON);
        x.offer(1, 0, 4);
        x.offer(1, 0, 6);
        x.offer(1, 0, 10);
        x.offer(2, 0, 10);
        x.offer(2, 0, 5);
        x.offer(2, 0, 5);
        accepted(x, 0, 10, 5, 4, 10);
        accepted(x, 0, 15, 5, 1 << 2 | 1 << 4, 15);
        accepted(x, 0, 40, 5, 63, 40);
        accepted(x, 0, 41, 5, ThanksOwed.NONE, ThanksOwed.NONE);
        accepted(x, 0, 9, 0, 1 | 1 << 4, 9);
        ThanksOwed y = check.town("9u00", 0, PERSON, WIDOW);
        y.offer(1, 0, 98);
        y.offer(1, 0, 1);
        y.offer(1, 0, 99);
        accepted(y, 0, 99, 20, 4, 9999);
        accepted(y, 0, 1, 20, 1, 9999);
    }

    private static void promise22AcceptAsIf() {
        ThanksOwed x = check.town("5d29", 0, SAINT, GRUNTER, PERSON);
        check.due("1 is OFFENDED by 0", x.favour(1, 0, 5, false), 0);
        x.offer(1, 0, 10);
        x.offer(2, 1, 10);
        accepted(x, 0, 10, 2, 1, 10);
        accepted(x, 0, 10, 3, 1, 15);
        accepted(x, 1, 10, 4, 2, 22);
        ThanksOwed y = check.town("5d30", 0, PERSON, PERSON, CHILD);
        check.owe(y, 0, 1, 10);
        y.week();
        y.week();
        check.owe(y, 2, 0, 10);
        check.law(y, "5d10");
        y.offer(1, 0, 10);
        y.offer(2, 0, 25);
        y.offer(1, 2, 10);
        // FREE for one week still, by the old thanks and by the new law alike; the other one for one.
        accepted(y, 0, 10, 2, 1, 30);
        check.law(y, "5d50");
        accepted(y, 0, 10, 5, 1, 20);
        accepted(y, 0, 25, 2, 2, 15 + 25);
        // The 10 would be 73 by then; with thanks for 10 more they are FREE for five weeks, as the 25 are.
        accepted(y, 0, 25, 6, 1 | 2, 30 + 37);
        accepted(y, 2, 1, 20, 4, 20);
        y.forget();
        y.offer(1, 0, 1);
        accepted(y, 0, 1, 5, 1, 11);
        ThanksOwed z = check.town("1u00", 0, PERSON, PERSON, PERSON);
        check.owe(z, 0, 1, 9990);
        z.offer(1, 0, 99);
        z.offer(2, 0, 50);
        accepted(z, 0, 50, 0, 1, 9999);
        accepted(z, 0, 149, 0, 3, 10049);
        ThanksOwed five = check.town("1u00", 0, PERSON, PERSON, PERSON, PERSON, PERSON);
        five.offer(0, 4, 9);
        accepted(five, 4, 9, 1, 1, 10);
    }

    private static void promise22AcceptOutside() {
        ThanksOwed x = check.town("1u00", 0, PERSON, PERSON);
        x.offer(1, 0, 9);
        check.due("accept(2, ..)", x.accept(2, 0, -1, 5), ThanksOwed.UNKNOWN);
        check.due("accept(-1, ..)", x.accept(-1, 1, 0, 0), ThanksOwed.UNKNOWN);
        check.due("need 0", x.accept(0, 0, 0, 0), ThanksOwed.OUTSIDE);
        check.due("need 501", x.accept(0, 501, 0, 0), ThanksOwed.OUTSIDE);
        check.due("weeks -1", x.accept(0, 1, -1, 0), ThanksOwed.OUTSIDE);
        check.due("weeks 21", x.accept(0, 1, 21, 0), ThanksOwed.OUTSIDE);
        check.due("what -1", x.accept(0, 1, 0, -1), ThanksOwed.OUTSIDE);
        check.due("what 2", x.accept(0, 1, 0, 2), ThanksOwed.OUTSIDE);
    }

    private static void grown(ThanksOwed x, int[] call, int sizes, int least) {
        String told = "grown(" + call[0] + ", " + call[1] + ", " + call[2] + ", " + call[3] + ", ";
        check.due(told + "0)", x.grown(call[0], call[1], call[2], call[3], 0), sizes);
        check.due(told + "1)", x.grown(call[0], call[1], call[2], call[3], 1), least);
    }

    private static void promise23Grown() {
        ThanksOwed x = new ThanksOwed();
        int none = ThanksOwed.NONE;
        check.law(x, "5u20");
        grown(x, new int[] {10, 0, PERSON, PERSON}, 1, 10);
        grown(x, new int[] {0, 0, PERSON, PERSON}, 0, none);
        grown(x, new int[] {100, 0, PERSON, PERSON}, 0, none);
        grown(x, new int[] {10, 2, PERSON, PERSON}, 1, 10);
        grown(x, new int[] {15, 3, PERSON, PERSON}, 1, 10);
        grown(x, new int[] {16, 3, PERSON, PERSON}, 0, none);
        grown(x, new int[] {17, 3, PERSON, PERSON}, 1, 11);
        grown(x, new int[] {23, 4, PERSON, PERSON}, 1, 10);
        grown(x, new int[] {20, 3, PERSON, WIDOW}, 1, 10);
        grown(x, new int[] {10, 40, PERSON, SAINT}, 1, 10);
        grown(x, new int[] {10, 40, CHILD, WIDOW}, 1, 10);
        grown(x, new int[] {15, 3, GRUNTER, GRUNTER}, 1, 10);
        grown(x, new int[] {15, 3, SAINT, CHILD}, 1, 10);
        grown(x, new int[] {9999, 40, PERSON, PERSON}, 99, 1);
        grown(x, new int[] {9998, 40, PERSON, PERSON}, 0, none);
        check.law(x, "9d00");
        // 1 does not grow by 9 tenths rounded down; 50 grows to 9999 and above in nine weeks, 30 does not.
        grown(x, new int[] {1, 40, PERSON, PERSON}, 1, 1);
        int least = 0;
        for (int size = 99; size >= 1; size--) {
            int owed = size;
            for (int week = 0; week < 9; week++) {
                owed = Math.min(9999, owed + owed * 9 / 10);
            }
            least = owed == 9999 ? size : least;
        }
        grown(x, new int[] {9999, 9, PERSON, PERSON}, 100 - least, least);
    }

    private static void promise23GrownOutside() {
        ThanksOwed x = new ThanksOwed();
        int[][] wrong = {
            {-1, 0, 0, 0, 0}, {10000, 0, 0, 0, 0}, {0, -1, 0, 0, 0}, {0, 41, 0, 0, 0}, {0, 0, -1, 0, 0},
            {0, 0, 5, 0, 0}, {0, 0, 0, -1, 0}, {0, 0, 0, 5, 0}, {0, 0, 0, 0, -1}, {0, 0, 0, 0, 2}};
        for (int[] w : wrong) {
            check.due("grown() outside", x.grown(w[0], w[1], w[2], w[3], w[4]), ThanksOwed.OUTSIDE);
        }
    }

    private static int nextSeed(int seed) {
        return (int) ((1103515245L * seed + 12345L) % 2147483648L);
    }

    private static int seedAfter(int seed, int draws) {
        int now = seed;
        for (int n = 0; n < draws; n++) {
            now = nextSeed(now);
        }
        return now;
    }

    private static void promise24Years() {
        ThanksOwed alone = check.town("1u00", 5, PERSON);
        check.due("one alone draws three a week", alone.years(1, 0, 2), seedAfter(0, 3));
        check.due("and 180 in 60", alone.years(60, 2147483647, 2), seedAfter(2147483647, 180));
        check.due("and OWES nothing", alone.years(60, 5, 0), 0);
        check.due("and is not RUINED", alone.years(60, 5, 1), 0);
        for (int seed = 0; seed < 40; seed++) {
            ThanksOwed x = check.town("3u11", 2, PERSON, WIDOW, CHILD, PERSON);
            x.favour(0, 1, 5, false);
            check.owe(x, 3, 1, 7);
            lived(x, 12, seed);
        }
    }

    private static void promise24YearsByKinds() {
        for (int seed = 1; seed < 40; seed++) {
            lived(check.town("2d09", 2, SAINT, GRUNTER, PERSON), 30, seed * 1000003);
        }
    }

    /** The same weeks lived by the calls themselves; a new object each time, as one is promised for 512 calls alone. */
    private static void lived(ThanksOwed x, int weeks, int firstSeed) {
        long before = x.digest();
        int[] told = {x.years(weeks, firstSeed, 0), x.years(weeks, firstSeed, 1), x.years(weeks, firstSeed, 2)};
        check.due("nothing has changed", x.digest(), before);
        int people = x.count(4);
        int seed = firstSeed;
        for (int week = 0; week < weeks; week++) {
            int sa = nextSeed(seed);
            int sb = nextSeed(sa);
            seed = nextSeed(sb);
            int a = (sa >>> 16) % people;
            int b = (sb >>> 16) % people;
            int size = (seed >>> 16) % 9 + 1;
            if (a != b && x.between(a, b, 2) == 0) {
                boolean thanks = false;
                if (x.as(b, GRUNTER) == ThanksOwed.NONE) {
                    seed = nextSeed(seed);
                    thanks = (seed >>> 16) % 2 == 1;
                }
                x.favour(a, b, size, thanks);
            }
            x.week();
        }
        check.due("years(" + weeks + ", " + firstSeed + ", 0)", told[0], x.count(8));
        check.due("years(" + weeks + ", " + firstSeed + ", 1)", told[1], x.count(5));
        check.due("years(" + weeks + ", " + firstSeed + ", 2)", told[2], seed);
    }

    private static void promise24YearsOutside() {
        ThanksOwed x = new ThanksOwed();
        check.due("with nobody", x.years(1, 0, 0), ThanksOwed.STATE);
        check.due("with nobody: OUTSIDE first", x.years(0, 0, 0), ThanksOwed.OUTSIDE);
        x.person(0, 0);
        check.due("weeks 0", x.years(0, 0, 0), ThanksOwed.OUTSIDE);
        check.due("weeks 61", x.years(61, 0, 0), ThanksOwed.OUTSIDE);
        check.due("seed -1", x.years(1, -1, 0), ThanksOwed.OUTSIDE);
        check.due("what -1", x.years(1, 0, -1), ThanksOwed.OUTSIDE);
        check.due("what 3", x.years(1, 0, 3), ThanksOwed.OUTSIDE);
        check.due("weeks 1, seed 0", x.years(1, 0, 1), 0);
    }
}
