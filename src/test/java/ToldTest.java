/** Promises 25 to 28: image, restore, count, digest. */
public final class ToldTest {
    private static final int PERSON = 0, CHILD = 1, WIDOW = 2, GRUNTER = 3, SAINT = 4;
    private static final Check check = new Check();

    public static void main(String[] args) {
        promise25Image();
        promise26Restore();
        promise26RestoreOfFewerPeople();
        promise27Count();
        promise28DigestOfNothing();
        promise28DigestByTheCalls();
        promise28DigestTellsLetters();
        check.end();
    }

    private static void promise25Image() {
        ThanksOwed x = check.town("1u00", 10, PERSON, PERSON);
        check.due("image()", x.image(), 0);
        x.week();
        x.week();
        check.owe(x, 0, 1, 9);
        long before = x.digest();
        check.due("the latest", x.image(), 2);
        check.due("image() changes nothing", x.digest(), before);
        x.forgive(1, 0);
        check.due("the latest is kept", x.restore(), 2);
        check.due("as it was", x.digest(), before);
    }

    private static void promise26Restore() {
        ThanksOwed x = check.town("2d34", 20, PERSON, WIDOW, SAINT);
        check.owe(x, 0, 1, 9);
        x.favour(1, 0, 5, false);
        x.offer(1, 0, 5);
        x.week();
        long before = x.digest();
        check.due("image()", x.image(), 1);
        x.week();
        x.pay(0, 1, 3);
        check.owe(x, 1, 0, 50);
        x.favour(0, 1, 5, false);
        x.offer(2, 0, 5);
        x.forget();
        x.offer(2, 1, 7);
        x.person(CHILD, 9);
        check.owe(x, 3, 0, 5);
        check.due("restore()", x.restore(), 1);
        check.due("all is as it was", x.digest(), before);
        check.due("the offer is as it was", x.accept(0, 5, 0, 0), 1);
        check.due("of the same size", x.accept(0, 5, 0, 1), 9 + 5);
        check.due("by the same one, a widow", x.accept(0, 5, 4, 1), 14 + 5);
        check.law(x, "9u99");
        check.write(x, "4u");
        x.week();
        check.due("restore() again", x.restore(), 1);
        int[] law = {2, 0, 3, 4};
        for (int what = 0; what < law.length; what++) {
            check.due("THE LAW is back: count(" + what + ")", x.count(what), law[what]);
        }
        check.due("letters of the page stay", x.count(9), 2);
        check.due("laws read stay", x.count(10), 2);
        check.due("weeks are back", x.count(6), 1);
        ThanksOwed y = check.town("1u00", 0, PERSON, PERSON);
        long none = y.digest();
        check.refused("restore() of none", y, none, y.restore(), ThanksOwed.STATE);
    }

    private static void promise26RestoreOfFewerPeople() {
        ThanksOwed x = check.town("1u99", 10, PERSON, PERSON);
        check.owe(x, 0, 1, 5);
        x.image();
        check.due("a third", x.person(SAINT, 9), 2);
        check.owe(x, 0, 2, 5);
        x.favour(1, 2, 3, false);
        x.offer(2, 0, 8);
        check.due("restore()", x.restore(), 0);
        check.due("the third is gone", x.about(2, 0), ThanksOwed.UNKNOWN);
        check.due("people", x.count(4), 2);
        check.due("offers", x.count(7), 0);
        check.due("all OWED", x.count(8), 5);
        check.due("another third", x.person(WIDOW, 3), 2);
        check.due("his kind", x.about(2, 0), WIDOW);
        check.due("nothing of the one before", x.about(2, 3), 0);
        check.due("nothing FREE", x.between(0, 2, 1), 0);
        check.due("nobody OFFENDED", x.between(1, 2, 2), 0);
        check.due("restore() once more", x.restore(), 0);
        check.due("people", x.count(4), 2);
    }

    private static void promise27Count() {
        ThanksOwed x = check.town("3d45", 5, PERSON, GRUNTER, CHILD, SAINT);
        check.owe(x, 0, 1, 6);
        check.owe(x, 0, 2, 20);
        check.owe(x, 2, 0, 30);
        x.week();
        x.week();
        x.offer(0, 1, 9);
        check.write(x, "77x");
        int[] due = {3, 0, 4, 5, 4, 1, 2, 1, 56, 3, 1};
        for (int what = 0; what < due.length; what++) {
            check.due("count(" + what + ")", x.count(what), due[what]);
        }
        check.due("count(-1)", x.count(-1), ThanksOwed.OUTSIDE);
        check.due("count(11)", x.count(11), ThanksOwed.OUTSIDE);
    }

    private static void promise28DigestOfNothing() {
        long h = 809;
        long[] numbers = {0, 0, 0, -1, -1, -1, -1, 1, 1, 0, 0, 0, 0, 0, 0, 0, 0, 0};
        for (long number : numbers) {
            h = 31 * h + number;
        }
        check.due("digest() of a new object", new ThanksOwed().digest(), h);
    }

    private static long digestByCalls(ThanksOwed x, String page) {
        long h = 809;
        int people = x.count(4);
        for (int person = 0; person < people; person++) {
            for (int what = 0; what <= 5; what++) {
                h = 31 * h + x.about(person, what);
            }
            h = 31 * h + x.ruin(person);
            for (int other = 0; other < people; other++) {
                for (int what = 0; what <= 2 && other != person; what++) {
                    h = 31 * h + x.between(person, other, what);
                }
            }
        }
        h = 31 * h + x.settling();
        int[] whats = {0, 1, 10, 11, 12, 13};
        for (int what : whats) {
            h = 31 * h + x.bestRing(what);
        }
        for (int place = 0; place < page.length(); place++) {
            h = 31 * h + page.charAt(place);
        }
        for (int what = 0; what <= 10; what++) {
            h = 31 * h + x.count(what);
        }
        return h;
    }

    private static void promise28DigestByTheCalls() {
        ThanksOwed x = check.town("2u13", 30, PERSON, WIDOW, CHILD, GRUNTER, SAINT);
        check.due("digest()", x.digest(), digestByCalls(x, ""));
        check.owe(x, 0, 1, 20);
        check.owe(x, 1, 0, 25);
        check.owe(x, 2, 1, 40);
        x.favour(0, 3, 4, false);
        x.week();
        check.due("digest()", x.digest(), digestByCalls(x, ""));
        check.write(x, "9 ~x");
        x.offer(0, 1, 3);
        check.due("digest()", x.digest(), digestByCalls(x, "9 ~x"));
        check.due("digest() again", x.digest(), digestByCalls(x, "9 ~x"));
    }

    private static void promise28DigestTellsLetters() {
        ThanksOwed x = new ThanksOwed();
        ThanksOwed y = new ThanksOwed();
        check.write(x, "12");
        check.write(y, "21");
        check.due("unlike pages", x.digest() == y.digest() ? 1 : 0, 0);
        check.due("digest() of a page", x.digest(), digestByCalls(x, "12"));
    }
}
