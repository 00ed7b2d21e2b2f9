import java.math.BigInteger;
import java.util.ArrayList;
import java.util.List;

/** Promises 25 to 28 sentence by sentence: what an image keeps, each count, the digest and how it wraps around. */
public final class EdgeToldTest {
    private static final int PERSON = 0, CHILD = 1, WIDOW = 2, GRUNTER = 3, SAINT = 4;
    private static final int NONE = ThanksOwed.NONE, UNKNOWN = ThanksOwed.UNKNOWN, OUTSIDE = ThanksOwed.OUTSIDE;
    private static final int STATE = ThanksOwed.STATE;
    private static final Edge edge = new Edge();

    public static void main(String[] args) {
        edge.run(EdgeToldTest.class);
    }

    // ---- 25 image

    @Sentence(promise = 25, words = "An IMAGE is kept (one; the latest): WEEKS")
    static void imageTellsWeeks() {
        ThanksOwed x = new ThanksOwed();
        edge.due("image() at first", x.image(), 0);
        x.week();
        edge.due("image() behind a week", x.image(), 1);
        edge.weeks(x, 100);
        edge.due("image() behind 101", x.image(), 101);
    }

    @Sentence(promise = 25, words = "An IMAGE is kept (one; the latest)")
    static void latestImageAlone() {
        ThanksOwed x = edge.town("1u00", 10, PERSON, PERSON);
        edge.owe(x, 0, 1, 5);
        x.image();
        x.week();
        edge.owe(x, 0, 1, 7);
        x.image();
        x.forgive(1, 0);
        edge.due("restore()", x.restore(), 1);
        edge.due("what was OWED at the latest", x.between(0, 1, 0), 13);
        x.week();
        edge.due("the one before is gone", x.restore(), 1);
    }

    @Sentence(promise = 25, words = "An IMAGE is kept")
    static void imageChangesNothingNow() {
        ThanksOwed x = edge.rich();
        long before = x.digest();
        x.image();
        edge.due("digest()", x.digest(), before);
        edge.due("accept(0, 1, 0, 1)", x.accept(0, 1, 0, 1), edge.rich().accept(0, 1, 0, 1));
    }

    @Sentence(promise = 25, words = "An IMAGE keeps how many PEOPLE there are")
    static void imageOfNobody() {
        ThanksOwed x = new ThanksOwed();
        x.image();
        x.person(GRUNTER, 9);
        x.person(PERSON, 9);
        edge.owe(x, 1, 0, 9);
        x.offer(0, 1, 5);
        edge.due("restore()", x.restore(), 0);
        edge.due("count(4)", x.count(4), 0);
        edge.due("about(0, 0)", x.about(0, 0), UNKNOWN);
        ThanksOwed none = new ThanksOwed();
        none.image();
        edge.same("as before the first", x, none);
    }

    @Sentence(promise = 25, words = "An IMAGE is kept")
    static void imageOfFivePeople() {
        ThanksOwed x = edge.full();
        long before = x.digest();
        x.image();
        edge.weeks(x, 9);
        x.forget();
        x.bankrupt(0);
        edge.due("restore()", x.restore(), 1);
        edge.due("digest()", x.digest(), before);
    }

    // ---- 26 restore

    @Sentence(promise = 26, words = "STATE: none was kept")
    static void restoreOfNone() {
        edge.refuses(ThanksOwed::new, "restore()", x -> x.restore(), STATE);
        edge.refuses(() -> edge.town("3d45", 9, PERSON, SAINT), "restore()", x -> x.restore(), STATE);
    }

    @Sentence(promise = 26, words = "It goes on from the IMAGE: WEEKS")
    static void restoreAgainAndAgain() {
        ThanksOwed x = edge.town("1u00", 9, PERSON, PERSON);
        edge.owe(x, 0, 1, 10);
        x.week();
        x.image();
        long before = x.digest();
        for (int n = 0; n < 3; n++) {
            edge.weeks(x, 2);
            edge.due("WEEKS", x.count(6), 3);
            edge.due("restore()", x.restore(), 1);
            edge.due("digest()", x.digest(), before);
        }
        edge.due("at once again", x.restore(), 1);
        edge.due("digest()", x.digest(), before);
    }

    @Sentence(promise = 26, words = "(those that come since are gone by restore())")
    static void thoseThatCameSinceAreGone() {
        ThanksOwed x = edge.town("1u99", 50, PERSON, PERSON);
        x.image();
        x.person(SAINT, 7);
        x.person(WIDOW, 7);
        edge.owe(x, 0, 3, 5);
        edge.owe(x, 3, 0, 6);
        x.favour(1, 3, 5, false);
        x.favour(3, 1, 5, false);
        x.restore();
        edge.due("count(4)", x.count(4), 2);
        edge.due("about(2, 0)", x.about(2, 0), UNKNOWN);
        edge.due("about(0, 2)", x.about(0, 2), 0);
        edge.due("another third", x.person(CHILD, 3), 2);
        edge.due("another fourth", x.person(CHILD, 4), 3);
        edge.due("his kind", x.about(2, 0), CHILD);
        edge.due("his wealth", x.about(3, 1), 4);
        int[][] pairs = {{0, 3}, {3, 0}, {1, 3}, {3, 1}};
        for (int[] pair : pairs) {
            for (int what = 0; what <= 2; what++) {
                edge.due("between(" + pair[0] + ", " + pair[1] + ", " + what + ")", x.between(pair[0], pair[1], what), 0);
            }
        }
    }

    private static ThanksOwed imaged() {
        ThanksOwed x = edge.town("2d34", 50, PERSON, WIDOW, CHILD);
        edge.owe(x, 0, 1, 20);
        x.favour(0, 2, 5, false);
        x.offer(1, 0, 9);
        x.week();
        x.image();
        return x;
    }

    @Sentence(promise = 26, words = "An IMAGE keeps how many PEOPLE there are (those that come since are gone by restore()), WEALTH")
    static void wealthIsKept() {
        ThanksOwed x = imaged();
        x.pay(0, 1, 10);
        x.restore();
        edge.due("of 0", x.about(0, 1), 50);
        edge.due("of 1", x.about(1, 1), 50);
    }

    @Sentence(promise = 26, words = "what all OWE")
    static void debtsAreKept() {
        ThanksOwed x = imaged();
        x.forgive(1, 0);
        edge.owe(x, 2, 1, 3);
        x.restore();
        edge.due("what 0 OWES 1", x.between(0, 1, 0), 20);
        edge.due("what 2 OWES 1", x.between(2, 1, 0), 0);
    }

    @Sentence(promise = 26, words = "FREE, OFFENDED WEEKS")
    static void freeWeeksAreKept() {
        ThanksOwed x = imaged();
        edge.weeks(x, 3);
        edge.owe(x, 2, 0, 3);
        x.restore();
        edge.due("FREE still", x.between(0, 1, 1), 2);
        edge.due("FREE since", x.between(2, 0, 1), 0);
    }

    @Sentence(promise = 26, words = "FREE, OFFENDED WEEKS")
    static void offendedWeeksAreKept() {
        ThanksOwed x = imaged();
        edge.weeks(x, 4);
        x.favour(1, 0, 5, false);
        x.restore();
        edge.due("OFFENDED still", x.between(0, 2, 2), 3);
        edge.due("OFFENDED since", x.between(1, 0, 2), 0);
    }

    @Sentence(promise = 26, words = "OFFENDED WEEKS, WEEKS")
    static void weeksAreKept() {
        ThanksOwed x = imaged();
        edge.weeks(x, 9);
        edge.due("restore()", x.restore(), 1);
        edge.due("count(6)", x.count(6), 1);
    }

    @Sentence(promise = 26, words = "WEEKS, OFFERS")
    static void offersAreKept() {
        ThanksOwed x = imaged();
        x.forget();
        x.offer(2, 1, 50);
        x.offer(2, 0, 60);
        x.restore();
        edge.due("count(7)", x.count(7), 1);
        edge.due("its size and for whom", x.accept(0, 9, 0, 0), 1);
        edge.due("by whom", x.accept(0, 9, 4, 1), 29 + 11);
        edge.due("none but it", x.accept(0, 10, 0, 0), NONE);
        edge.due("none for others", x.accept(1, 1, 0, 0), NONE);
        ThanksOwed none = edge.town("1u00", 0, PERSON, PERSON);
        none.image();
        none.offer(0, 1, 5);
        none.restore();
        edge.due("none at all", none.forget(), 0);
    }

    @Sentence(promise = 26, words = "THE LAW")
    static void lawIsKept() {
        ThanksOwed x = imaged();
        edge.law(x, "7u89");
        x.restore();
        int[] law = {2, 0, 3, 4};
        for (int what = 0; what < law.length; what++) {
            edge.due("count(" + what + ")", x.count(what), law[what]);
        }
    }

    @Sentence(promise = 26, words = "An IMAGE keeps")
    static void pageAndLawsReadAreNotKept() {
        ThanksOwed x = imaged();
        edge.law(x, "7u89");
        edge.write(x, "6d7");
        x.restore();
        edge.due("laws read", x.count(10), 2);
        edge.due("letters", x.count(9), 3);
        edge.due("fault()", x.fault(), 3);
        x.letter('5');
        edge.due("law()", x.law(), 3);
        edge.due("RATE", x.count(0), 6);
    }

    // ---- 27 count

    @Sentence(promise = 27, words = "OUTSIDE")
    static void countWhat() {
        edge.range(edge::rich, "count(what)", (x, n) -> x.count(n), 0, 10, OUTSIDE);
        edge.range(ThanksOwed::new, "count(what) of nobody", (x, n) -> x.count(n), 0, 10, OUTSIDE);
    }

    @Sentence(promise = 27, words = "How many: 0 RATE, 1 whether broken ones are rounded up (1, 0), 2 FREE, 3 SULK, 4 PEOPLE")
    static void countEach() {
        int[] due = {2, 1, 3, 4, 4, 0, 1, 3, 86, 2, 1};
        ThanksOwed x = edge.rich();
        for (int what = 0; what < due.length; what++) {
            edge.due("count(" + what + ")", x.count(what), due[what]);
        }
    }

    @Sentence(promise = 27, words = "How many")
    static void countOfAllThatIsFull() {
        int[] due = {2, 1, 3, 4, 5, 0, 1, 6, 86, 6, 1};
        ThanksOwed x = edge.full();
        for (int what = 0; what < due.length; what++) {
            edge.due("count(" + what + ")", x.count(what), due[what]);
        }
    }

    @Sentence(promise = 27, words = "5 RUINED ones")
    static void noneToFourRuined() {
        ThanksOwed x = edge.town("1u00", 5, PERSON, PERSON, PERSON, PERSON, PERSON);
        for (int debtor = 0; debtor < 4; debtor++) {
            edge.due("RUINED", x.count(5), debtor);
            edge.owe(x, debtor, 4, 5);
            edge.due("not by NET of 0", x.count(5), debtor);
            edge.owe(x, debtor, 4, 1);
        }
        edge.due("all but one", x.count(5), 4);
    }

    @Sentence(promise = 27, words = "8 all that is OWED")
    static void greatestOfAllThatIsOwed() {
        ThanksOwed x = edge.town("9u00", 0, WIDOW, WIDOW, WIDOW, WIDOW, WIDOW);
        for (int debtor = 0; debtor < 5; debtor++) {
            for (int creditor = 0; creditor < 5; creditor++) {
                if (creditor != debtor) {
                    edge.owe(x, debtor, creditor, 99);
                }
            }
        }
        edge.due("20 of 99", x.count(8), 1980);
        edge.weeks(x, 6);
        edge.due("20 of 9999", x.count(8), 199980);
    }

    @Sentence(promise = 27, words = "How many")
    static void countChangesNothing() {
        for (int n = 0; n <= 10; n++) {
            int what = n;
            edge.changesNothing(edge::rich, "count(" + n + ")", x -> x.count(what));
        }
    }

    // ---- 28 digest

    /** The digest by numbers that have no greatest one, of which the last 64 bits are taken at the end alone. */
    private static long digestOf(List<Integer> numbers) {
        BigInteger h = BigInteger.valueOf(809);
        for (int number : numbers) {
            h = h.multiply(BigInteger.valueOf(31)).add(BigInteger.valueOf(number));
        }
        return h.longValue();
    }

    private static List<Integer> numbersOf(ThanksOwed x, String page) {
        List<Integer> numbers = new ArrayList<>();
        int people = x.count(4);
        for (int person = 0; person < people; person++) {
            for (int what = 0; what <= 5; what++) {
                numbers.add(x.about(person, what));
            }
            numbers.add(x.ruin(person));
            for (int other = 0; other < people; other++) {
                for (int what = 0; what <= 2 && other != person; what++) {
                    numbers.add(x.between(person, other, what));
                }
            }
        }
        numbers.add(x.settling());
        int[] whats = {0, 1, 10, 11, 12, 13};
        for (int what : whats) {
            numbers.add(x.bestRing(what));
        }
        for (char letter : page.toCharArray()) {
            numbers.add((int) letter);
        }
        for (int what = 0; what <= 10; what++) {
            numbers.add(x.count(what));
        }
        return numbers;
    }

    @Sentence(promise = 28, words = "h is 809, then for each of these numbers, in order, 31 times h, and it")
    static void digestOfNobody() {
        List<Integer> due = List.of(0, 0, 0, -1, -1, -1, -1, 1, 1, 0, 0, 0, 0, 0, 0, 0, 0, 0);
        edge.due("digest()", new ThanksOwed().digest(), digestOf(due));
    }

    @Sentence(promise = 28, words = "of each PERSON what about() tells for 0 to 5, RUIN")
    static void digestOfOneAlone() {
        ThanksOwed x = new ThanksOwed();
        x.person(WIDOW, 7);
        List<Integer> due = List.of(
            2, 7, 0, 0, 7, 0, -1, 0, 0, 0, -1, -1, -1, -1, 1, 1, 0, 0, 1, 0, 0, 0, 0, 0, 0);
        edge.due("digest()", x.digest(), digestOf(due));
    }

    @Sentence(promise = 28, words = "then for each other one what between() tells for 0 to 2")
    static void digestOfTwo() {
        ThanksOwed x = edge.town("0u46", 7, WIDOW, PERSON);
        edge.owe(x, 0, 1, 5);
        edge.owe(x, 1, 0, 30);
        x.favour(0, 1, 5, false);
        List<Integer> due = List.of(
            2, 7, 5, 30, 32, 0, -1, 5, 4, 6,
            0, 7, 30, 5, -18, 1, 0, 30, 4, 0,
            1, 10, 2, 0, 1, -1, -1, 0, 1, 4, 6, 2, 1, 0, 0, 35, 0, 1);
        edge.due("digest()", x.digest(), digestOf(due));
    }

    @Sentence(promise = 28, words = "(as longs, wrapping)")
    static void digestWraps() {
        ThanksOwed x = edge.rich();
        edge.due("of four people", x.digest(), digestOf(numbersOf(x, "7d")));
        ThanksOwed y = edge.full();
        edge.due("of five people", y.digest(), digestOf(numbersOf(y, "1u0000")));
        ThanksOwed z = edge.town("9u00", 0, WIDOW, WIDOW, WIDOW, WIDOW, WIDOW);
        edge.owe(z, 0, 1, 99);
        edge.owe(z, 1, 0, 99);
        edge.weeks(z, 6);
        edge.due("of the greatest debts", z.digest(), digestOf(numbersOf(z, "")));
    }

    @Sentence(promise = 28, words = "letters of THE PAGE")
    static void digestOfPages() {
        String[] pages = {"", " ", "~", "1u00", "xxxxxx"};
        for (String page : pages) {
            ThanksOwed x = new ThanksOwed();
            edge.write(x, page);
            edge.due("digest() of '" + page + "'", x.digest(), digestOf(numbersOf(x, page)));
        }
    }

    @Sentence(promise = 28, words = "h is 809")
    static void digestChangesNothing() {
        edge.changesNothing(edge::rich, "digest()", x -> x.digest());
        edge.changesNothing(edge::full, "digest()", x -> x.digest());
        edge.changesNothing(ThanksOwed::new, "digest()", x -> x.digest());
    }

    @Sentence(promise = 28, words = "An object is used for at most 512 calls after it has been made")
    static void digestAsThe512thCall() {
        ThanksOwed x = new ThanksOwed();
        for (int n = 0; n < 5; n++) {
            x.person(n, 99);
        }
        for (int n = 0; n < 506; n++) {
            x.digest();
        }
        ThanksOwed y = new ThanksOwed();
        for (int n = 0; n < 5; n++) {
            y.person(n, 99);
        }
        edge.due("the 512th call", x.digest(), y.digest());
    }
}
