import java.math.BigInteger;
import java.util.ArrayList;
import java.util.HashMap;
import java.util.HashSet;
import java.util.List;
import java.util.Map;
import java.util.Set;

/** The document once more, by trying out all there is: slow, and written apart from the class that it is held against. */
final class Model {
    static final int NONE = -1, UNKNOWN = -101, OUTSIDE = -102, STATE = -103, FULL = -104;

    private record Offer(int from, int to, int size) { }

    private record Pair(int a, int b) { }

    private String page = "";
    private int lawsRead;
    private Model kept;

    private String law = "1u00";
    private List<Integer> kinds = new ArrayList<>();
    private List<Integer> wealth = new ArrayList<>();
    private Map<Pair, Integer> owes = new HashMap<>();
    private Map<Pair, Integer> free = new HashMap<>();
    private Map<Pair, Integer> offended = new HashMap<>();
    private List<Offer> offers = new ArrayList<>();
    private int weeks;

    private void take(Model other) {
        law = other.law;
        kinds = new ArrayList<>(other.kinds);
        wealth = new ArrayList<>(other.wealth);
        owes = new HashMap<>(other.owes);
        free = new HashMap<>(other.free);
        offended = new HashMap<>(other.offended);
        offers = new ArrayList<>(other.offers);
        weeks = other.weeks;
    }

    private Model twin() {
        Model twin = new Model();
        twin.take(this);
        return twin;
    }

    private int lawDigit(int place) {
        return Integer.parseInt(law.substring(place, place + 1));
    }

    private boolean unknown(int... people) {
        Set<Integer> seen = new HashSet<>();
        for (int person : people) {
            if (person < 0 || person >= kinds.size() || !seen.add(person)) {
                return true;
            }
        }
        return false;
    }

    private int owed(int debtor, int creditor) {
        return owes.getOrDefault(new Pair(debtor, creditor), 0);
    }

    int letter(int code) {
        if (code < 32 || code > 126) {
            return OUTSIDE;
        }
        if (page.length() == 6) {
            return FULL;
        }
        page += (char) code;
        return page.length();
    }

    int blank() {
        int had = page.length();
        page = "";
        return had;
    }

    int fault() {
        for (int length = page.length(); length >= 0; length--) {
            String whole = page.substring(0, length) + "0u00".substring(Math.min(4, length));
            if (whole.matches("[0-9][ud][0-9][0-9]")) {
                return length;
            }
        }
        throw new IllegalStateException();
    }

    int law() {
        if (!page.matches("[0-9][ud][0-9][0-9]")) {
            return STATE;
        }
        law = page;
        page = "";
        return ++lawsRead;
    }

    int person(int kind, int riches) {
        if (kind < 0 || kind > 4 || riches < 0 || riches > 99) {
            return OUTSIDE;
        }
        if (kinds.size() == 5) {
            return FULL;
        }
        kinds.add(kind);
        wealth.add(riches);
        return kinds.size() - 1;
    }

    int about(int person, int what) {
        if (unknown(person)) {
            return UNKNOWN;
        }
        int debts = 0;
        int claims = 0;
        for (Map.Entry<Pair, Integer> e : owes.entrySet()) {
            debts += e.getKey().a() == person ? e.getValue() : 0;
            claims += e.getKey().b() == person ? e.getValue() : 0;
        }
        int net = wealth.get(person) + claims - debts;
        int[] told = {kinds.get(person), wealth.get(person), debts, claims, net, net < 0 ? 1 : 0};
        return what < 0 || what > 5 ? OUTSIDE : told[what];
    }

    int as(int person, int kind) {
        if (unknown(person)) {
            return UNKNOWN;
        }
        if (kind < 0 || kind > 4) {
            return OUTSIDE;
        }
        String[] such = {"0", "01", "02", "03", "034"};
        return such[kinds.get(person)].indexOf('0' + kind) >= 0 ? person : NONE;
    }

    int between(int a, int b, int what) {
        if (unknown(a, b)) {
            return UNKNOWN;
        }
        Pair pair = new Pair(a, b);
        int[] told = {owed(a, b), free.getOrDefault(pair, 0), offended.getOrDefault(pair, 0)};
        return what < 0 || what > 2 ? OUTSIDE : told[what];
    }

    int favour(int a, int b, int size, boolean thanks) {
        if (unknown(a, b)) {
            return UNKNOWN;
        }
        if (size < 1 || size > 99) {
            return OUTSIDE;
        }
        if (between(a, b, 2) > 0 || thanks && as(b, 3) == b) {
            return STATE;
        }
        if (thanks) {
            oweMore(b, a, size);
        } else if (kinds.get(a) != 4) {
            offended.merge(new Pair(a, b), lawDigit(3), Math::max);
        }
        return owed(b, a);
    }

    private void oweMore(int debtor, int creditor, int size) {
        owes.put(new Pair(debtor, creditor), Math.min(9999, owed(debtor, creditor) + size));
        free.merge(new Pair(debtor, creditor), lawDigit(2), Math::max);
    }

    int week() {
        int growth = 0;
        for (Map.Entry<Pair, Integer> e : owes.entrySet()) {
            Pair pair = e.getKey();
            int tenths = lawDigit(0);
            if (kinds.get(pair.b()) == 2) {
                tenths *= 2;
            }
            if (kinds.get(pair.b()) == 4 || kinds.get(pair.a()) == 1 || free.getOrDefault(pair, 0) > 0) {
                tenths = 0;
            }
            int product = e.getValue() * tenths;
            int more = law.charAt(1) == 'u' ? -Math.floorDiv(-product, 10) : Math.floorDiv(product, 10);
            int then = Math.min(9999, e.getValue() + more);
            growth += then - e.getValue();
            e.setValue(then);
        }
        free.replaceAll((pair, left) -> Math.max(0, left - 1));
        offended.replaceAll((pair, left) -> Math.max(0, left - 1));
        weeks++;
        return growth;
    }

    int pay(int b, int a, int sum) {
        if (unknown(b, a)) {
            return UNKNOWN;
        }
        if (sum < 1 || sum > 999) {
            return OUTSIDE;
        }
        if (wealth.get(b) < sum || owed(b, a) < sum || wealth.get(a) + sum > 999) {
            return STATE;
        }
        wealth.set(b, wealth.get(b) - sum);
        wealth.set(a, wealth.get(a) + sum);
        return owes.merge(new Pair(b, a), -sum, Integer::sum);
    }

    private int clear(int... row) {
        if (unknown(row)) {
            return UNKNOWN;
        }
        int least = leastOf(row);
        for (int i = 0; i < row.length; i++) {
            owes.merge(new Pair(row[i], row[(i + 1) % row.length]), -least, Integer::sum);
        }
        return least;
    }

    private int leastOf(int... row) {
        int least = 9999;
        for (int i = 0; i < row.length; i++) {
            least = Math.min(least, owed(row[i], row[(i + 1) % row.length]));
        }
        return least;
    }

    int setOff(int a, int b) {
        return clear(a, b);
    }

    int ring(int a, int b, int c) {
        return clear(a, b, c);
    }

    int forgive(int a, int b) {
        if (unknown(a, b)) {
            return UNKNOWN;
        }
        Integer was = owes.remove(new Pair(b, a));
        return was == null ? 0 : was;
    }

    int bankrupt(int person) {
        if (unknown(person)) {
            return UNKNOWN;
        }
        int all = about(person, 2);
        if (all == 0) {
            return STATE;
        }
        int had = wealth.get(person);
        int left = had;
        for (int other = 0; other < kinds.size(); other++) {
            int part = Math.min(owed(person, other), had * owed(person, other) / all);
            left -= part;
            wealth.set(other, Math.min(999, wealth.get(other) + part));
        }
        wealth.set(person, left);
        owes.keySet().removeIf(pair -> pair.a() == person);
        return had - left;
    }

    int ruin(int person) {
        if (unknown(person)) {
            return UNKNOWN;
        }
        Model then = twin();
        for (int passed = 0; passed <= 40; passed++) {
            if (then.about(person, 5) == 1) {
                return passed;
            }
            then.week();
        }
        return NONE;
    }

    /** Tries each set of pairs that pay: they can settle all if what each connected group owes evens out. */
    int settling() {
        int people = kinds.size();
        List<Pair> pairs = new ArrayList<>();
        for (int a = 0; a < people; a++) {
            for (int b = a + 1; b < people; b++) {
                pairs.add(new Pair(a, b));
            }
        }
        int fewest = people;
        for (int set = 0; set < 1 << pairs.size(); set++) {
            if (Integer.bitCount(set) < fewest && settles(pairs, set)) {
                fewest = Integer.bitCount(set);
            }
        }
        return fewest;
    }

    private boolean settles(List<Pair> pairs, int set) {
        int[] group = new int[kinds.size()];
        for (int person = 0; person < group.length; person++) {
            group[person] = person;
        }
        for (int i = 0; i < pairs.size(); i++) {
            if ((set & 1 << i) != 0) {
                int from = group[pairs.get(i).a()];
                int to = group[pairs.get(i).b()];
                for (int person = 0; person < group.length; person++) {
                    group[person] = group[person] == from ? to : group[person];
                }
            }
        }
        int[] sums = new int[group.length];
        for (int person = 0; person < group.length; person++) {
            sums[group[person]] += about(person, 2) - about(person, 3);
        }
        for (int sum : sums) {
            if (sum != 0) {
                return false;
            }
        }
        return true;
    }

    int bestRing(int what) {
        if (what < 0 || what > 13 || what > 1 && what < 10) {
            return OUTSIDE;
        }
        List<int[]> rows = new ArrayList<>();
        for (int person = 0; person < kinds.size(); person++) {
            rows.add(new int[] {person});
        }
        int[] best = {};
        int together = 0;
        for (int length = 2; length <= 4; length++) {
            rows = longer(rows);
            for (int[] row : rows) {
                int sum = row[0] == least(row) ? leastOf(row) * length : 0;
                if (sum > together || sum > 0 && sum == together && length == best.length && comesFirst(row, best)) {
                    best = row;
                    together = sum;
                }
            }
        }
        if (what < 2) {
            return what == 0 ? together : best.length;
        }
        return what - 10 < best.length ? best[what - 10] : NONE;
    }

    private List<int[]> longer(List<int[]> rows) {
        List<int[]> all = new ArrayList<>();
        for (int[] row : rows) {
            // From the last down, so that the first by numbers is not just the first that is found.
            for (int person = kinds.size() - 1; person >= 0; person--) {
                int[] next = java.util.Arrays.copyOf(row, row.length + 1);
                next[row.length] = person;
                if (!unknown(next)) {
                    all.add(next);
                }
            }
        }
        return all;
    }

    private static int least(int[] row) {
        int least = row[0];
        for (int person : row) {
            least = Math.min(least, person);
        }
        return least;
    }

    private static boolean comesFirst(int[] a, int[] b) {
        return java.util.Arrays.compare(a, b) < 0;
    }

    int offer(int from, int to, int size) {
        if (unknown(from, to)) {
            return UNKNOWN;
        }
        if (size < 1 || size > 99) {
            return OUTSIDE;
        }
        if (offers.size() == 6) {
            return FULL;
        }
        offers.add(new Offer(from, to, size));
        return offers.size();
    }

    int forget() {
        int had = offers.size();
        offers.clear();
        return had;
    }

    int accept(int person, int need, int weeks, int what) {
        if (unknown(person)) {
            return UNKNOWN;
        }
        if (need < 1 || need > 500 || weeks < 0 || weeks > 20 || what < 0 || what > 1) {
            return OUTSIDE;
        }
        int bestBits = NONE;
        int best = NONE;
        for (int bits = (1 << offers.size()) - 1; bits > 0; bits--) {
            int owedThen = owedHavingThanked(person, bits, need, weeks);
            if (owedThen == NONE) {
                continue;
            }
            boolean fewer = bestBits != NONE && Integer.bitCount(bits) <= Integer.bitCount(bestBits);
            if (bestBits == NONE || owedThen < best || owedThen == best && fewer) {
                bestBits = bits;
                best = owedThen;
            }
        }
        return what == 0 ? bestBits : best;
    }

    private int owedHavingThanked(int person, int bits, int need, int weeks) {
        Model then = twin();
        int sizes = 0;
        for (int i = 0; i < offers.size(); i++) {
            Offer offer = offers.get(i);
            if ((bits & 1 << i) == 0) {
                continue;
            }
            if (offer.to() != person) {
                return NONE;
            }
            then.oweMore(person, offer.from(), offer.size());
            sizes += offer.size();
        }
        for (int passed = 0; passed < weeks; passed++) {
            then.week();
        }
        return sizes < need ? NONE : then.about(person, 2);
    }

    int grown(int sum, int weeks, int debtor, int creditor, int what) {
        if (sum < 0 || sum > 9999 || weeks < 0 || weeks > 40 || what < 0 || what > 1
                || debtor < 0 || debtor > 4 || creditor < 0 || creditor > 4) {
            return OUTSIDE;
        }
        List<Integer> sizes = new ArrayList<>();
        for (int size = 1; size <= 99; size++) {
            Model two = new Model();
            two.law = law;
            two.person(debtor, 0);
            two.person(creditor, 0);
            two.oweMore(0, 1, size);
            for (int passed = 0; passed < weeks; passed++) {
                two.week();
            }
            if (two.owed(0, 1) == sum) {
                sizes.add(size);
            }
        }
        if (what == 0) {
            return sizes.size();
        }
        return sizes.isEmpty() ? NONE : sizes.get(0);
    }

    int years(int weeks, int seed, int what) {
        if (weeks < 1 || weeks > 60 || seed < 0 || what < 0 || what > 2) {
            return OUTSIDE;
        }
        if (kinds.isEmpty()) {
            return STATE;
        }
        Model then = twin();
        BigInteger[] now = {BigInteger.valueOf(seed)};
        for (int passed = 0; passed < weeks; passed++) {
            int a = draw(now, kinds.size());
            int b = draw(now, kinds.size());
            int size = draw(now, 9) + 1;
            if (!unknown(a, b) && then.between(a, b, 2) == 0) {
                then.favour(a, b, size, as(b, 3) == NONE && draw(now, 2) == 1);
            }
            then.week();
        }
        return what == 2 ? now[0].intValueExact() : then.count(what == 0 ? 8 : 5);
    }

    private static int draw(BigInteger[] seed, int choices) {
        BigInteger next = seed[0].multiply(BigInteger.valueOf(1103515245)).add(BigInteger.valueOf(12345));
        seed[0] = next.mod(BigInteger.TWO.pow(31));
        return seed[0].divide(BigInteger.valueOf(65536)).mod(BigInteger.valueOf(choices)).intValueExact();
    }

    int image() {
        kept = twin();
        return weeks;
    }

    int restore() {
        if (kept == null) {
            return STATE;
        }
        take(kept);
        return weeks;
    }

    int count(int what) {
        int ruined = 0;
        int all = 0;
        for (int person = 0; person < kinds.size(); person++) {
            ruined += about(person, 5);
            all += about(person, 3);
        }
        int[] told = {lawDigit(0), law.charAt(1) == 'u' ? 1 : 0, lawDigit(2), lawDigit(3), kinds.size(), ruined, weeks,
            offers.size(), all, page.length(), lawsRead};
        return what < 0 || what > 10 ? OUTSIDE : told[what];
    }

    long digest() {
        List<Integer> numbers = new ArrayList<>();
        for (int person = 0; person < kinds.size(); person++) {
            for (int what = 0; what <= 5; what++) {
                numbers.add(about(person, what));
            }
            numbers.add(ruin(person));
            for (int other = 0; other < kinds.size(); other++) {
                for (int what = 0; what <= 2 && other != person; what++) {
                    numbers.add(between(person, other, what));
                }
            }
        }
        numbers.add(settling());
        for (int what : new int[] {0, 1, 10, 11, 12, 13}) {
            numbers.add(bestRing(what));
        }
        page.chars().forEach(numbers::add);
        for (int what = 0; what <= 10; what++) {
            numbers.add(count(what));
        }
        long h = 809;
        for (int number : numbers) {
            h = 31 * h + number;
        }
        return h;
    }
}
