/** Thanks that bear interest: who thanks for a favour owes for it, and that grows week by week. */
public final class ThanksOwed {
    public static final int NONE = -1, UNKNOWN = -101, OUTSIDE = -102, STATE = -103, FULL = -104;

    private static final int MOST_LETTERS = 6;
    private static final int LAW_LETTERS = 4;
    private static final int MOST_PEOPLE = 5;
    private static final int PAIRS = MOST_PEOPLE * MOST_PEOPLE;
    private static final int MOST_OFFERS = 6;
    private static final int MOST_OWED = 9999;
    private static final int MOST_WEALTH = 999;
    private static final int MOST_FIRST_WEALTH = 99;
    private static final int MOST_SIZE = 99;
    private static final int MOST_NEED = 500;
    private static final int MOST_ACCEPT_WEEKS = 20;
    private static final int MOST_RUIN_WEEKS = 40;
    private static final int MOST_GROWN_WEEKS = 40;
    private static final int MOST_YEARS_WEEKS = 60;
    private static final int MOST_DRAWN_SIZE = 9;
    private static final int LEAST_RING = 2;
    private static final int MOST_RING = 4;
    private static final int FIRST_OF_RING = 10;
    private static final Kind[] KINDS = Kind.values();

    private final Page page = new Page();
    private final Town town = new Town();
    private final Offers offers = new Offers();
    private final Town keptTown = new Town();
    private final Offers keptOffers = new Offers();
    private final Town wouldBe = new Town();
    private final RingSearch rings = new RingSearch();
    private final Settlement settlement = new Settlement();
    private final Acceptance acceptance = new Acceptance();
    private final Draws draws = new Draws();
    private final int[] ruinWeeks = new int[MOST_PEOPLE];
    private boolean imageKept;
    private int lawsRead;

    public ThanksOwed() {
    }

    // ---- the law

    public int letter(int code) {
        if (!within(code, 32, 126)) {
            return OUTSIDE;
        }
        if (page.length >= MOST_LETTERS) {
            return FULL;
        }
        page.put(code);
        return page.length;
    }

    public int blank() {
        int had = page.length;
        page.length = 0;
        return had;
    }

    public int fault() {
        return page.firstFault();
    }

    public int law() {
        if (!page.isLaw()) {
            return STATE;
        }
        town.law.readFrom(page);
        page.length = 0;
        lawsRead++;
        return lawsRead;
    }

    // ---- people

    public int person(int kind, int wealth) {
        if (!isKind(kind) || !within(wealth, 0, MOST_FIRST_WEALTH)) {
            return OUTSIDE;
        }
        if (town.people >= MOST_PEOPLE) {
            return FULL;
        }
        return town.welcome(kind, wealth);
    }

    public int about(int person, int what) {
        if (!town.has(person)) {
            return UNKNOWN;
        }
        switch (what) {
            case 0: return town.kinds[person];
            case 1: return town.wealth[person];
            case 2: return town.owedBy(person);
            case 3: return town.owedTo(person);
            case 4: return town.net(person);
            case 5: return oneIf(town.isRuined(person));
            default: return OUTSIDE;
        }
    }

    public int as(int person, int kind) {
        if (!town.has(person)) {
            return UNKNOWN;
        }
        if (!isKind(kind)) {
            return OUTSIDE;
        }
        return town.kindOf(person).isA(KINDS[kind]) ? person : NONE;
    }

    public int between(int a, int b, int what) {
        if (!town.hasBoth(a, b)) {
            return UNKNOWN;
        }
        int pair = pairOf(a, b);
        switch (what) {
            case 0: return town.owes[pair];
            case 1: return town.free[pair];
            case 2: return town.offended[pair];
            default: return OUTSIDE;
        }
    }

    public int favour(int a, int b, int size, boolean thanks) {
        if (!town.hasBoth(a, b)) {
            return UNKNOWN;
        }
        if (!isSize(size)) {
            return OUTSIDE;
        }
        if (town.isOffended(a, b) || (thanks && !town.kindOf(b).thanks)) {
            return STATE;
        }
        if (thanks) {
            town.thank(a, b, size);
        } else {
            town.grunt(a, b);
        }
        return town.owes[pairOf(b, a)];
    }

    public int week() {
        return town.passWeek();
    }

    public int pay(int b, int a, int sum) {
        if (!town.hasBoth(b, a)) {
            return UNKNOWN;
        }
        if (!within(sum, 1, MOST_WEALTH)) {
            return OUTSIDE;
        }
        int pair = pairOf(b, a);
        if (town.wealth[b] < sum || town.owes[pair] < sum || town.wealth[a] + sum > MOST_WEALTH) {
            return STATE;
        }
        town.wealth[b] -= sum;
        town.wealth[a] += sum;
        town.owes[pair] -= sum;
        return town.owes[pair];
    }

    public int setOff(int a, int b) {
        if (!town.hasBoth(a, b)) {
            return UNKNOWN;
        }
        int there = pairOf(a, b);
        int back = pairOf(b, a);
        int least = Math.min(town.owes[there], town.owes[back]);
        town.owes[there] -= least;
        town.owes[back] -= least;
        return least;
    }

    public int ring(int a, int b, int c) {
        if (!town.hasBoth(a, b) || !town.hasBoth(b, c) || a == c) {
            return UNKNOWN;
        }
        int first = pairOf(a, b);
        int second = pairOf(b, c);
        int third = pairOf(c, a);
        int least = Math.min(town.owes[first], Math.min(town.owes[second], town.owes[third]));
        town.owes[first] -= least;
        town.owes[second] -= least;
        town.owes[third] -= least;
        return least;
    }

    public int forgive(int a, int b) {
        if (!town.hasBoth(a, b)) {
            return UNKNOWN;
        }
        int pair = pairOf(b, a);
        int forgiven = town.owes[pair];
        town.owes[pair] = 0;
        return forgiven;
    }

    public int bankrupt(int person) {
        if (!town.has(person)) {
            return UNKNOWN;
        }
        int allOwed = town.owedBy(person);
        if (allOwed <= 0) {
            return STATE;
        }
        return town.shareOut(person, allOwed);
    }

    // ---- what would be

    public int ruin(int person) {
        if (!town.has(person)) {
            return UNKNOWN;
        }
        foreseeRuin();
        return ruinWeeks[person];
    }

    public int settling() {
        return settlement.fewestPayments(town);
    }

    public int bestRing(int what) {
        if (what != 0 && what != 1 && !within(what, FIRST_OF_RING, FIRST_OF_RING + MOST_RING - 1)) {
            return OUTSIDE;
        }
        rings.search(town);
        return rings.tell(what);
    }

    public int offer(int from, int to, int size) {
        if (!town.hasBoth(from, to)) {
            return UNKNOWN;
        }
        if (!isSize(size)) {
            return OUTSIDE;
        }
        if (offers.count >= MOST_OFFERS) {
            return FULL;
        }
        offers.put(from, to, size);
        return offers.count;
    }

    public int forget() {
        int had = offers.count;
        offers.count = 0;
        return had;
    }

    public int accept(int person, int need, int weeks, int what) {
        if (!town.has(person)) {
            return UNKNOWN;
        }
        if (!within(need, 1, MOST_NEED) || !within(weeks, 0, MOST_ACCEPT_WEEKS) || !within(what, 0, 1)) {
            return OUTSIDE;
        }
        acceptance.search(town, offers, person, need, weeks);
        return what == 0 ? acceptance.bits : acceptance.owed;
    }

    public int grown(int sum, int weeks, int debtor, int creditor, int what) {
        if (!within(sum, 0, MOST_OWED) || !within(weeks, 0, MOST_GROWN_WEEKS)
                || !isKind(debtor) || !isKind(creditor) || !within(what, 0, 1)) {
            return OUTSIDE;
        }
        int tenths = town.law.tenths(KINDS[debtor], KINDS[creditor]);
        int sizes = 0;
        int least = NONE;
        for (int size = MOST_SIZE; size >= 1; size--) {
            if (town.law.owedAfter(size, town.law.free, weeks, tenths) == sum) {
                sizes++;
                least = size;
            }
        }
        return what == 0 ? sizes : least;
    }

    public int years(int weeks, int seed, int what) {
        if (!within(weeks, 1, MOST_YEARS_WEEKS) || seed < 0 || !within(what, 0, 2)) {
            return OUTSIDE;
        }
        if (town.people == 0) {
            return STATE;
        }
        draws.seed = seed;
        wouldBe.copyFrom(town);
        for (int passed = 0; passed < weeks; passed++) {
            wouldBe.liveWeek(draws);
        }
        switch (what) {
            case 0: return wouldBe.allOwed();
            case 1: return wouldBe.ruinedOnes();
            default: return draws.seed;
        }
    }

    // ---- what is told of all

    public int image() {
        keptTown.copyFrom(town);
        keptOffers.copyFrom(offers);
        imageKept = true;
        return town.weeks;
    }

    public int restore() {
        if (!imageKept) {
            return STATE;
        }
        town.copyFrom(keptTown);
        offers.copyFrom(keptOffers);
        return town.weeks;
    }

    public int count(int what) {
        switch (what) {
            case 0: return town.law.rate;
            case 1: return oneIf(town.law.up);
            case 2: return town.law.free;
            case 3: return town.law.sulk;
            case 4: return town.people;
            case 5: return town.ruinedOnes();
            case 6: return town.weeks;
            case 7: return offers.count;
            case 8: return town.allOwed();
            case 9: return page.length;
            case 10: return lawsRead;
            default: return OUTSIDE;
        }
    }

    public long digest() {
        long h = 809;
        foreseeRuin();
        for (int person = 0; person < town.people; person++) {
            h = digestPerson(h, person);
        }
        h = 31 * h + settlement.fewestPayments(town);
        rings.search(town);
        h = 31 * h + rings.tell(0);
        h = 31 * h + rings.tell(1);
        for (int place = 0; place < MOST_RING; place++) {
            h = 31 * h + rings.tell(FIRST_OF_RING + place);
        }
        for (int place = 0; place < page.length; place++) {
            h = 31 * h + page.codes[place];
        }
        for (int what = 0; what <= 10; what++) {
            h = 31 * h + count(what);
        }
        return h;
    }

    // It relies on foreseeRuin() having been called for the town as it is.
    private long digestPerson(long before, int person) {
        long h = before;
        for (int what = 0; what <= 5; what++) {
            h = 31 * h + about(person, what);
        }
        h = 31 * h + ruinWeeks[person];
        for (int other = 0; other < town.people; other++) {
            if (other == person) {
                continue;
            }
            for (int what = 0; what <= 2; what++) {
                h = 31 * h + between(person, other, what);
            }
        }
        return h;
    }

    // All people at once, since the weeks that pass are the same ones for each of them.
    private void foreseeRuin() {
        wouldBe.copyFrom(town);
        for (int person = 0; person < MOST_PEOPLE; person++) {
            ruinWeeks[person] = NONE;
        }
        noteRuined(0);
        for (int passed = 1; passed <= MOST_RUIN_WEEKS; passed++) {
            wouldBe.passWeek();
            noteRuined(passed);
        }
    }

    private void noteRuined(int passed) {
        for (int person = 0; person < wouldBe.people; person++) {
            if (ruinWeeks[person] == NONE && wouldBe.isRuined(person)) {
                ruinWeeks[person] = passed;
            }
        }
    }

    private static boolean within(int number, int least, int most) {
        return number >= least && number <= most;
    }

    private static boolean isKind(int kind) {
        return within(kind, 0, KINDS.length - 1);
    }

    private static boolean isSize(int size) {
        return within(size, 1, MOST_SIZE);
    }

    private static int oneIf(boolean holds) {
        return holds ? 1 : 0;
    }

    private static boolean isAmong(int number, int bits) {
        return ((bits >> number) & 1) == 1;
    }

    private static int pairOf(int from, int to) {
        return from * MOST_PEOPLE + to;
    }

    private enum Kind {
        PERSON(1, 1, true, true),
        CHILD(0, 1, true, true),
        WIDOW(1, 2, true, true),
        GRUNTER(1, 1, false, true),
        SAINT(1, 0, false, false);

        final int timesAsDebtor;
        final int timesAsCreditor;
        final boolean thanks;
        final boolean sulks;

        Kind(int timesAsDebtor, int timesAsCreditor, boolean thanks, boolean sulks) {
            this.timesAsDebtor = timesAsDebtor;
            this.timesAsCreditor = timesAsCreditor;
            this.thanks = thanks;
            this.sulks = sulks;
        }

        boolean isA(Kind other) {
            return other == this || other == PERSON || (this == SAINT && other == GRUNTER);
        }
    }

    private static final class Page {
        final int[] codes = new int[MOST_LETTERS];
        int length;

        void put(int code) {
            if (length < MOST_LETTERS) {
                codes[length] = code;
                length++;
            }
        }

        int firstFault() {
            for (int place = 0; place < length; place++) {
                if (!fits(place)) {
                    return place;
                }
            }
            return length;
        }

        boolean isLaw() {
            return length == LAW_LETTERS && firstFault() == LAW_LETTERS;
        }

        int digit(int place) {
            return codes[place] - '0';
        }

        private boolean fits(int place) {
            if (place >= LAW_LETTERS) {
                return false;
            }
            if (place == 1) {
                return codes[place] == 'u' || codes[place] == 'd';
            }
            return within(digit(place), 0, 9);
        }
    }

    private static final class Law {
        int rate = 1;
        boolean up = true;
        int free;
        int sulk;

        void readFrom(Page page) {
            rate = page.digit(0);
            up = page.codes[1] == 'u';
            free = page.digit(2);
            sulk = page.digit(3);
        }

        void copyFrom(Law other) {
            rate = other.rate;
            up = other.up;
            free = other.free;
            sulk = other.sulk;
        }

        int tenths(Kind debtor, Kind creditor) {
            return rate * debtor.timesAsDebtor * creditor.timesAsCreditor;
        }

        int owedNextWeek(int owed, int tenths) {
            int tenfold = owed * tenths;
            int growth = up ? (tenfold + 9) / 10 : tenfold / 10;
            return Math.min(MOST_OWED, owed + growth);
        }

        int owedAfter(int owedNow, int freeWeeks, int weeks, int tenths) {
            int owed = owedNow;
            for (int passed = freeWeeks; passed < weeks; passed++) {
                int next = owedNextWeek(owed, tenths);
                // What does not grow in one week grows in none behind it.
                if (next == owed) {
                    return owed;
                }
                owed = next;
            }
            return owed;
        }
    }

    /** All that an IMAGE keeps but the offers; the rows of people who are not there hold zeros alone. */
    private static final class Town {
        final Law law = new Law();
        final int[] kinds = new int[MOST_PEOPLE];
        final int[] wealth = new int[MOST_PEOPLE];
        final int[] owes = new int[PAIRS];
        final int[] free = new int[PAIRS];
        final int[] offended = new int[PAIRS];
        int people;
        int weeks;

        void copyFrom(Town other) {
            law.copyFrom(other.law);
            System.arraycopy(other.kinds, 0, kinds, 0, MOST_PEOPLE);
            System.arraycopy(other.wealth, 0, wealth, 0, MOST_PEOPLE);
            System.arraycopy(other.owes, 0, owes, 0, PAIRS);
            System.arraycopy(other.free, 0, free, 0, PAIRS);
            System.arraycopy(other.offended, 0, offended, 0, PAIRS);
            people = other.people;
            weeks = other.weeks;
        }

        int welcome(int kind, int firstWealth) {
            if (people >= MOST_PEOPLE) {
                return FULL;
            }
            kinds[people] = kind;
            wealth[people] = firstWealth;
            people++;
            return people - 1;
        }

        boolean has(int person) {
            return person >= 0 && person < people;
        }

        boolean hasBoth(int a, int b) {
            return has(a) && has(b) && a != b;
        }

        Kind kindOf(int person) {
            return KINDS[kinds[person]];
        }

        int owedBy(int person) {
            int sum = 0;
            for (int other = 0; other < people; other++) {
                sum += owes[pairOf(person, other)];
            }
            return sum;
        }

        int owedTo(int person) {
            int sum = 0;
            for (int other = 0; other < people; other++) {
                sum += owes[pairOf(other, person)];
            }
            return sum;
        }

        int net(int person) {
            return wealth[person] + owedTo(person) - owedBy(person);
        }

        boolean isRuined(int person) {
            return net(person) < 0;
        }

        int ruinedOnes() {
            int ruined = 0;
            for (int person = 0; person < people; person++) {
                ruined += oneIf(isRuined(person));
            }
            return ruined;
        }

        int allOwed() {
            int sum = 0;
            for (int person = 0; person < people; person++) {
                sum += owedBy(person);
            }
            return sum;
        }

        boolean isOffended(int a, int b) {
            return offended[pairOf(a, b)] > 0;
        }

        void thank(int a, int b, int size) {
            int pair = pairOf(b, a);
            owes[pair] = Math.min(MOST_OWED, owes[pair] + size);
            free[pair] = Math.max(free[pair], law.free);
        }

        void grunt(int a, int b) {
            if (kindOf(a).sulks) {
                int pair = pairOf(a, b);
                offended[pair] = Math.max(offended[pair], law.sulk);
            }
        }

        int passWeek() {
            int growth = 0;
            for (int debtor = 0; debtor < people; debtor++) {
                for (int creditor = 0; creditor < people; creditor++) {
                    growth += passPairWeek(debtor, creditor);
                }
            }
            weeks++;
            return growth;
        }

        private int passPairWeek(int debtor, int creditor) {
            int pair = pairOf(debtor, creditor);
            int before = owes[pair];
            if (free[pair] == 0 && before > 0) {
                owes[pair] = law.owedNextWeek(before, law.tenths(kindOf(debtor), kindOf(creditor)));
            }
            free[pair] = Math.max(0, free[pair] - 1);
            offended[pair] = Math.max(0, offended[pair] - 1);
            return owes[pair] - before;
        }

        int shareOut(int person, int allOwed) {
            int had = wealth[person];
            int given = 0;
            for (int other = 0; other < people; other++) {
                int pair = pairOf(person, other);
                if (owes[pair] > 0 && allOwed > 0) {
                    int part = Math.min(owes[pair], had * owes[pair] / allOwed);
                    wealth[other] = Math.min(MOST_WEALTH, wealth[other] + part);
                    given += part;
                    owes[pair] = 0;
                }
            }
            wealth[person] = had - given;
            return given;
        }

        void liveWeek(Draws draws) {
            int a = draws.next(people);
            int b = draws.next(people);
            int size = draws.next(MOST_DRAWN_SIZE) + 1;
            if (a != b && !isOffended(a, b)) {
                if (kindOf(b).thanks && draws.next(2) == 1) {
                    thank(a, b, size);
                } else {
                    grunt(a, b);
                }
            }
            passWeek();
        }
    }

    private static final class Offers {
        final int[] from = new int[MOST_OFFERS];
        final int[] to = new int[MOST_OFFERS];
        final int[] sizes = new int[MOST_OFFERS];
        int count;

        void copyFrom(Offers other) {
            System.arraycopy(other.from, 0, from, 0, MOST_OFFERS);
            System.arraycopy(other.to, 0, to, 0, MOST_OFFERS);
            System.arraycopy(other.sizes, 0, sizes, 0, MOST_OFFERS);
            count = other.count;
        }

        void put(int giver, int taker, int size) {
            if (count < MOST_OFFERS) {
                from[count] = giver;
                to[count] = taker;
                sizes[count] = size;
                count++;
            }
        }

        int bitsFor(int person) {
            int bits = 0;
            for (int number = 0; number < count; number++) {
                if (to[number] == person) {
                    bits |= 1 << number;
                }
            }
            return bits;
        }

        int sizeOf(int bits) {
            int sum = 0;
            for (int number = 0; number < count; number++) {
                if (isAmong(number, bits)) {
                    sum += sizes[number];
                }
            }
            return sum;
        }

        int sizeFrom(int giver, int bits) {
            int sum = 0;
            for (int number = 0; number < count; number++) {
                if (isAmong(number, bits) && from[number] == giver) {
                    sum += sizes[number];
                }
            }
            return sum;
        }
    }

    private static final class Draws {
        int seed;

        int next(int choices) {
            if (choices < 1) {
                return 0;
            }
            seed = (int) ((1103515245L * seed + 12345L) & 0x7FFFFFFFL);
            return (seed / 65536) % choices;
        }
    }

    private static final class RingSearch {
        final int[] row = new int[MOST_RING];
        final int[] best = new int[MOST_RING];
        int bestLength;
        int bestTotal;

        // Shorter rows and lesser numbers come first, so only a greater sum takes the place of the best.
        void search(Town town) {
            bestLength = 0;
            bestTotal = 0;
            for (int length = LEAST_RING; length <= MOST_RING; length++) {
                for (int first = 0; first < town.people; first++) {
                    row[0] = first;
                    extend(town, 1, length, MOST_OWED);
                }
            }
        }

        int tell(int what) {
            if (what == 0) {
                return bestTotal;
            }
            if (what == 1) {
                return bestLength;
            }
            int place = what - FIRST_OF_RING;
            return place >= 0 && place < bestLength ? best[place] : NONE;
        }

        private void extend(Town town, int depth, int length, int least) {
            int last = row[depth - 1];
            if (depth >= length) {
                close(length, Math.min(least, town.owes[pairOf(last, row[0])]));
                return;
            }
            for (int next = row[0] + 1; next < town.people; next++) {
                int most = Math.min(least, town.owes[pairOf(last, next)]);
                if (most * length > bestTotal && !isInRow(next, depth)) {
                    row[depth] = next;
                    extend(town, depth + 1, length, most);
                }
            }
        }

        private boolean isInRow(int person, int depth) {
            for (int place = 0; place < depth; place++) {
                if (row[place] == person) {
                    return true;
                }
            }
            return false;
        }

        private void close(int length, int least) {
            if (least * length > bestTotal) {
                bestTotal = least * length;
                bestLength = length;
                System.arraycopy(row, 0, best, 0, length);
            }
        }
    }

    /** A group whose debts even out is settled by one payment fewer than it has people. */
    private static final class Settlement {
        final int[] sums = new int[1 << MOST_PEOPLE];
        final int[] evenGroups = new int[1 << MOST_PEOPLE];

        int fewestPayments(Town town) {
            int all = 1 << town.people;
            for (int group = 1; group < all; group++) {
                int last = Integer.numberOfTrailingZeros(group);
                sums[group] = sums[group & (group - 1)] + town.owedBy(last) - town.owedTo(last);
                evenGroups[group] = mostWithoutOne(group, town.people) + oneIf(sums[group] == 0);
            }
            return town.people - evenGroups[all - 1];
        }

        private int mostWithoutOne(int group, int people) {
            int most = 0;
            for (int person = 0; person < people; person++) {
                if (isAmong(person, group)) {
                    most = Math.max(most, evenGroups[group ^ (1 << person)]);
                }
            }
            return most;
        }
    }

    private static final class Acceptance {
        int bits;
        int owed;

        // Lesser bits come first, so of like choices only one of fewer offers takes the place of the best.
        void search(Town town, Offers offers, int person, int need, int weeks) {
            bits = NONE;
            owed = NONE;
            int his = offers.bitsFor(person);
            for (int chosen = 1; chosen <= his; chosen++) {
                if ((chosen & his) == chosen && offers.sizeOf(chosen) >= need) {
                    weigh(chosen, owedBehind(town, offers, person, chosen, weeks));
                }
            }
        }

        private void weigh(int chosen, int after) {
            if (bits == NONE || after < owed
                    || (after == owed && Integer.bitCount(chosen) < Integer.bitCount(bits))) {
                bits = chosen;
                owed = after;
            }
        }

        private int owedBehind(Town town, Offers offers, int person, int chosen, int weeks) {
            int sum = 0;
            for (int other = 0; other < town.people; other++) {
                int pair = pairOf(person, other);
                int more = offers.sizeFrom(other, chosen);
                int start = Math.min(MOST_OWED, town.owes[pair] + more);
                int free = more > 0 ? Math.max(town.free[pair], town.law.free) : town.free[pair];
                int tenths = town.law.tenths(town.kindOf(person), town.kindOf(other));
                sum += town.law.owedAfter(start, free, weeks, tenths);
            }
            return sum;
        }
    }
}
