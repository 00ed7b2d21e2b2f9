/** Promises 6 to 16: person, about, as, between, favour, week, pay, setOff, ring, forgive, bankrupt. */
public final class PeopleTest {
    private static final int PERSON = 0, CHILD = 1, WIDOW = 2, GRUNTER = 3, SAINT = 4;
    private static final Check check = new Check();

    public static void main(String[] args) {
        promise6Person();
        promise7About();
        promise8As();
        promise9Between();
        promise10FavourThanked();
        promise10FavourGrunted();
        promise10FavourRefused();
        promise11WeekGrows();
        promise11WeekByKinds();
        promise11WeekFreeAndCapped();
        promise12Pay();
        promise12PayRefused();
        promise12PayToTheRichest();
        promise13SetOff();
        promise14Ring();
        promise15Forgive();
        promise16Bankrupt();
        promise16BankruptEdges();
        check.end();
    }

    private static void promise6Person() {
        ThanksOwed x = new ThanksOwed();
        check.due("kind -1", x.person(-1, 0), ThanksOwed.OUTSIDE);
        check.due("kind 5", x.person(5, 0), ThanksOwed.OUTSIDE);
        check.due("wealth -1", x.person(0, -1), ThanksOwed.OUTSIDE);
        check.due("wealth 100", x.person(0, 100), ThanksOwed.OUTSIDE);
        check.due("nobody came", x.count(4), 0);
        for (int n = 0; n < 5; n++) {
            check.due("person " + n, x.person(n, n == 4 ? 99 : n), n);
            check.due("his kind", x.about(n, 0), n);
            check.due("his wealth", x.about(n, 1), n == 4 ? 99 : n);
            check.due("people", x.count(4), n + 1);
        }
        long before = x.digest();
        check.refused("a sixth", x, before, x.person(0, 0), ThanksOwed.FULL);
        check.refused("a sixth of no kind", x, before, x.person(5, 0), ThanksOwed.OUTSIDE);
        check.refused("a sixth too wealthy", x, before, x.person(0, 100), ThanksOwed.OUTSIDE);
    }

    private static void promise7About() {
        ThanksOwed x = check.town("1u00", 10, WIDOW, PERSON, CHILD);
        check.owe(x, 0, 1, 30);
        check.owe(x, 0, 2, 4);
        check.owe(x, 1, 0, 25);
        int[][] due = {{2, 10, 34, 25, 1, 0}, {0, 10, 25, 30, 15, 0}, {1, 10, 0, 4, 14, 0}};
        for (int person = 0; person < 3; person++) {
            for (int what = 0; what <= 5; what++) {
                check.due("about(" + person + ", " + what + ")", x.about(person, what), due[person][what]);
            }
        }
        check.owe(x, 0, 2, 1);
        check.due("NET of 0 is no ruin", x.about(0, 4), 0);
        check.due("not RUINED at 0", x.about(0, 5), 0);
        check.owe(x, 0, 2, 1);
        check.due("NET below 0", x.about(0, 4), -1);
        check.due("RUINED below 0", x.about(0, 5), 1);
        check.due("count(5)", x.count(5), 1);
        check.due("about(3, 0)", x.about(3, 0), ThanksOwed.UNKNOWN);
        check.due("about(-1, 0)", x.about(-1, 0), ThanksOwed.UNKNOWN);
        check.due("about(3, 6): UNKNOWN first", x.about(3, 6), ThanksOwed.UNKNOWN);
        check.due("about(0, 6)", x.about(0, 6), ThanksOwed.OUTSIDE);
        check.due("about(0, -1)", x.about(0, -1), ThanksOwed.OUTSIDE);
    }

    private static void promise8As() {
        ThanksOwed x = check.town("1u00", 0, SAINT, GRUNTER, WIDOW, CHILD, PERSON);
        boolean[][] such = {
            {true, false, false, true, true},
            {true, false, false, true, false},
            {true, false, true, false, false},
            {true, true, false, false, false},
            {true, false, false, false, false}};
        for (int person = 0; person < 5; person++) {
            for (int kind = 0; kind < 5; kind++) {
                check.due("as(" + person + ", " + kind + ")", x.as(person, kind), such[person][kind] ? person : ThanksOwed.NONE);
            }
        }
        check.due("as(5, 0)", x.as(5, 0), ThanksOwed.UNKNOWN);
        check.due("as(-1, 0)", x.as(-1, 0), ThanksOwed.UNKNOWN);
        check.due("as(5, 5): UNKNOWN first", x.as(5, 5), ThanksOwed.UNKNOWN);
        check.due("as(0, 5)", x.as(0, 5), ThanksOwed.OUTSIDE);
        check.due("as(0, -1)", x.as(0, -1), ThanksOwed.OUTSIDE);
    }

    private static void promise9Between() {
        ThanksOwed x = check.town("1u35", 0, PERSON, PERSON);
        check.owe(x, 0, 1, 7);
        check.due("a grunt", x.favour(0, 1, 2, false), 0);
        int[] zeroToOne = {7, 3, 5};
        int[] oneToZero = {0, 0, 0};
        for (int what = 0; what <= 2; what++) {
            check.due("between(0, 1, " + what + ")", x.between(0, 1, what), zeroToOne[what]);
            check.due("between(1, 0, " + what + ")", x.between(1, 0, what), oneToZero[what]);
        }
        check.due("between(0, 0, 0)", x.between(0, 0, 0), ThanksOwed.UNKNOWN);
        check.due("between(0, 2, 0)", x.between(0, 2, 0), ThanksOwed.UNKNOWN);
        check.due("between(2, 0, 0)", x.between(2, 0, 0), ThanksOwed.UNKNOWN);
        check.due("between(-1, 0, 0)", x.between(-1, 0, 0), ThanksOwed.UNKNOWN);
        check.due("between(0, -1, 9): UNKNOWN first", x.between(0, -1, 9), ThanksOwed.UNKNOWN);
        check.due("between(0, 1, 3)", x.between(0, 1, 3), ThanksOwed.OUTSIDE);
        check.due("between(0, 1, -1)", x.between(0, 1, -1), ThanksOwed.OUTSIDE);
    }

    private static void promise10FavourThanked() {
        ThanksOwed x = check.town("1u42", 0, PERSON, WIDOW, CHILD, GRUNTER, SAINT);
        check.due("size 1", x.favour(0, 1, 1, true), 1);
        check.due("size 99", x.favour(0, 1, 99, true), 100);
        check.due("the other way nothing", x.between(0, 1, 0), 0);
        check.due("a grunter is thanked", x.favour(3, 2, 5, true), 5);
        check.due("a saint is thanked", x.favour(4, 2, 6, true), 6);
        check.due("FREE", x.between(1, 0, 1), 4);
        x.week();
        check.due("FREE, a week later", x.between(1, 0, 1), 3);
        check.law(x, "1u12");
        check.due("thanks under less FREE", x.favour(0, 1, 1, true), 101);
        check.due("as many still, as that was more", x.between(1, 0, 1), 3);
        check.law(x, "1u92");
        x.favour(0, 1, 1, true);
        check.due("more FREE", x.between(1, 0, 1), 9);
        ThanksOwed y = check.town("1u00", 0, PERSON, PERSON);
        check.owe(y, 1, 0, 99 * 100);
        check.due("9998", y.favour(0, 1, 98, true), 9998);
        check.due("what is above 9999 is lost", y.favour(0, 1, 99, true), 9999);
        check.due("all owed", y.count(8), 9999);
    }

    private static void promise10FavourGrunted() {
        ThanksOwed x = check.town("1u43", 0, PERSON, PERSON, SAINT, GRUNTER);
        check.owe(x, 1, 0, 8);
        check.due("a grunt owes nothing more", x.favour(0, 1, 50, false), 8);
        check.due("OFFENDED", x.between(0, 1, 2), 3);
        check.due("b is not OFFENDED", x.between(1, 0, 2), 0);
        check.due("a saint is grunted at", x.favour(2, 1, 50, false), 0);
        check.due("a saint is never OFFENDED", x.between(2, 1, 2), 0);
        ThanksOwed others = check.town("1u06", 0, CHILD, WIDOW);
        check.due("a child is grunted at", others.favour(0, 1, 5, false), 0);
        check.due("a child is OFFENDED", others.between(0, 1, 2), 6);
        check.due("a widow is grunted at", others.favour(1, 0, 5, false), 0);
        check.due("a widow is OFFENDED", others.between(1, 0, 2), 6);
        check.due("a grunter is grunted at", x.favour(3, 1, 50, false), 0);
        check.due("a grunter is OFFENDED", x.between(3, 1, 2), 3);
        check.due("a grunt makes nothing FREE", x.between(1, 3, 1), 0);
        check.due("b may do a favours", x.favour(1, 0, 2, true), 2);
        check.due("a may do others favours", x.favour(0, 3, 2, false), 0);
        x.week();
        x.week();
        check.due("OFFENDED a week still", x.favour(0, 1, 1, true), ThanksOwed.STATE);
        x.week();
        check.due("OFFENDED no more", x.favour(0, 1, 1, true), 9);
    }

    private static void promise10FavourRefused() {
        ThanksOwed x = check.town("1u02", 0, PERSON, PERSON, GRUNTER, SAINT);
        x.favour(0, 1, 1, false);
        long before = x.digest();
        int unknown = ThanksOwed.UNKNOWN, outside = ThanksOwed.OUTSIDE, state = ThanksOwed.STATE;
        check.refused("a = 4", x, before, x.favour(4, 0, 1, true), unknown);
        check.refused("b = 4", x, before, x.favour(0, 4, 1, true), unknown);
        check.refused("a = -1", x, before, x.favour(-1, 0, 1, true), unknown);
        check.refused("b = -1, size 0", x, before, x.favour(0, -1, 0, true), unknown);
        check.refused("the same, size 0", x, before, x.favour(1, 1, 0, false), unknown);
        check.refused("size 0, offended", x, before, x.favour(0, 1, 0, true), outside);
        check.refused("size 100, a grunter", x, before, x.favour(0, 2, 100, true), outside);
        check.refused("offended, thanks", x, before, x.favour(0, 1, 1, true), state);
        check.refused("offended, grunts", x, before, x.favour(0, 1, 1, false), state);
        check.refused("a grunter thanks", x, before, x.favour(0, 2, 1, true), state);
        check.refused("a saint thanks", x, before, x.favour(0, 3, 1, true), state);
    }

    /** What sum is owed one of a kind by one of a kind behind one week. */
    private static void grows(String law, int debtor, int creditor, int sum, int due) {
        ThanksOwed x = check.town(law, 0, debtor, creditor);
        check.owe(x, 0, 1, sum);
        String told = law + ", kinds " + debtor + ", " + creditor + ", " + sum;
        check.due("week() of " + told, x.week(), due - sum);
        check.due(told + " grown", x.between(0, 1, 0), due);
        check.due("the other way nothing", x.between(1, 0, 0), 0);
        check.due("WEEKS", x.count(6), 1);
    }

    private static void promise11WeekGrows() {
        grows("1u00", PERSON, PERSON, 1, 2);
        grows("1d00", PERSON, PERSON, 1, 1);
        grows("1u00", PERSON, PERSON, 10, 11);
        grows("1d00", PERSON, PERSON, 10, 11);
        grows("1u00", PERSON, PERSON, 11, 13);
        grows("1d00", PERSON, PERSON, 19, 20);
        grows("0u00", PERSON, PERSON, 99, 99);
        grows("9u00", PERSON, PERSON, 99, 189);
        grows("9d00", PERSON, PERSON, 99, 188);
        grows("5u00", PERSON, PERSON, 1, 2);
        grows("5d00", PERSON, PERSON, 3, 4);
    }

    private static void promise11WeekByKinds() {
        grows("3u00", CHILD, PERSON, 50, 50);
        grows("3u00", CHILD, WIDOW, 50, 50);
        grows("3u00", PERSON, WIDOW, 51, 82);
        grows("3d00", PERSON, WIDOW, 51, 81);
        grows("9d00", WIDOW, WIDOW, 99, 277);
        grows("3u00", WIDOW, PERSON, 51, 67);
        grows("3u00", PERSON, CHILD, 50, 65);
        grows("3u00", PERSON, GRUNTER, 50, 65);
        grows("3u00", PERSON, SAINT, 50, 50);
        grows("3u00", CHILD, SAINT, 50, 50);
        ThanksOwed x = check.town("2u00", 0, PERSON, WIDOW, CHILD);
        check.owe(x, 0, 1, 10);
        check.owe(x, 0, 2, 20);
        check.owe(x, 1, 0, 30);
        check.owe(x, 2, 0, 40);
        check.due("together", x.week(), 4 + 4 + 6);
        check.due("WEEKS", x.count(6), 1);
    }

    private static void promise11WeekFreeAndCapped() {
        ThanksOwed x = check.town("1u22", 0, PERSON, PERSON);
        check.owe(x, 0, 1, 10);
        x.favour(0, 1, 1, false);
        check.due("the first FREE week", x.week(), 0);
        check.due("FREE, one fewer", x.between(0, 1, 1), 1);
        check.due("OFFENDED, one fewer", x.between(0, 1, 2), 1);
        check.due("the last FREE week", x.week(), 0);
        check.due("FREE no more", x.between(0, 1, 1), 0);
        check.due("it grows", x.week(), 1);
        check.due("FREE not below 0", x.between(0, 1, 1), 0);
        check.due("OFFENDED not below 0", x.between(0, 1, 2), 0);
        ThanksOwed y = check.town("9u00", 0, PERSON, PERSON);
        check.owe(y, 0, 1, 9998);
        check.due("grows by what is left", y.week(), 1);
        check.due("grows no more", y.week(), 0);
        check.due("9999", y.between(0, 1, 0), 9999);
        ThanksOwed z = new ThanksOwed();
        check.due("a week with nobody", z.week(), 0);
        check.due("WEEKS with nobody", z.count(6), 1);
    }

    private static void promise12Pay() {
        ThanksOwed x = check.town("1u30", 20, PERSON, PERSON, SAINT);
        check.owe(x, 0, 1, 15);
        check.due("pay(0, 1, 5)", x.pay(0, 1, 5), 10);
        check.due("wealth of b", x.about(0, 1), 15);
        check.due("wealth of a", x.about(1, 1), 25);
        check.due("what he has not", x.pay(0, 1, 11), ThanksOwed.STATE);
        check.due("all that he OWES", x.pay(0, 1, 10), 0);
        check.due("paid, FREE goes on", x.between(0, 1, 1), 3);
        check.due("nothing is OWED", x.pay(0, 1, 1), ThanksOwed.STATE);
    }

    private static void promise12PayRefused() {
        ThanksOwed x = check.town("1u00", 20, PERSON, PERSON);
        check.owe(x, 0, 1, 30);
        long before = x.digest();
        check.refused("pay(0, 0, 1)", x, before, x.pay(0, 0, 1), ThanksOwed.UNKNOWN);
        check.refused("pay(2, 0, 0)", x, before, x.pay(2, 0, 0), ThanksOwed.UNKNOWN);
        check.refused("pay(0, 2, 1)", x, before, x.pay(0, 2, 1), ThanksOwed.UNKNOWN);
        check.refused("pay(-1, 0, 1)", x, before, x.pay(-1, 0, 1), ThanksOwed.UNKNOWN);
        check.refused("pay(0, 1, 0)", x, before, x.pay(0, 1, 0), ThanksOwed.OUTSIDE);
        check.refused("pay(0, 1, 1000)", x, before, x.pay(0, 1, 1000), ThanksOwed.OUTSIDE);
        check.refused("pay(0, 1, -5)", x, before, x.pay(0, 1, -5), ThanksOwed.OUTSIDE);
        check.refused("pay(0, 1, 999)", x, before, x.pay(0, 1, 999), ThanksOwed.STATE);
        check.refused("pay(0, 1, 21)", x, before, x.pay(0, 1, 21), ThanksOwed.STATE);
        check.refused("pay(1, 0, 1)", x, before, x.pay(1, 0, 1), ThanksOwed.STATE);
    }

    // Five people bring 495 at most, so no run of calls reaches a WEALTH of 999; this is as rich as one gets.
    private static void promise12PayToTheRichest() {
        ThanksOwed x = check.town("0u00", 99, PERSON, PERSON, PERSON, PERSON, PERSON);
        for (int debtor = 1; debtor < 5; debtor++) {
            check.owe(x, debtor, 0, 99);
            check.due("pay(" + debtor + ", 0, 99)", x.pay(debtor, 0, 99), 0);
        }
        check.due("the richest", x.about(0, 1), 495);
        check.owe(x, 0, 1, 495);
        check.due("all of it at once", x.pay(0, 1, 495), 0);
        check.due("the richest now", x.about(1, 1), 495);
    }

    private static void promise13SetOff() {
        ThanksOwed x = check.town("1u20", 0, PERSON, PERSON, PERSON);
        check.owe(x, 0, 1, 30);
        check.owe(x, 1, 0, 12);
        check.owe(x, 0, 2, 5);
        check.due("setOff(0, 1)", x.setOff(0, 1), 12);
        check.due("left", x.between(0, 1, 0), 18);
        check.due("nothing left", x.between(1, 0, 0), 0);
        check.due("others' as it was", x.between(0, 2, 0), 5);
        check.due("setOff(1, 0) again", x.setOff(1, 0), 0);
        check.owe(x, 1, 0, 40);
        check.due("setOff(0, 1), the first owes less", x.setOff(0, 1), 18);
        check.due("left", x.between(1, 0, 0), 22);
        check.due("none left", x.between(0, 1, 0), 0);
        long before = x.digest();
        check.refused("setOff(1, 1)", x, before, x.setOff(1, 1), ThanksOwed.UNKNOWN);
        check.refused("setOff(3, 0)", x, before, x.setOff(3, 0), ThanksOwed.UNKNOWN);
        check.refused("setOff(0, 3)", x, before, x.setOff(0, 3), ThanksOwed.UNKNOWN);
        check.refused("setOff(0, -1)", x, before, x.setOff(0, -1), ThanksOwed.UNKNOWN);
    }

    private static void promise14Ring() {
        for (int least = 0; least < 3; least++) {
            ThanksOwed x = check.town("1u00", 0, PERSON, PERSON, PERSON);
            int[] sums = {20, 20, 20};
            sums[least] = 7;
            check.owe(x, 0, 1, sums[0]);
            check.owe(x, 1, 2, sums[1]);
            check.owe(x, 2, 0, sums[2]);
            check.owe(x, 1, 0, 50);
            check.due("the other way round", x.ring(0, 2, 1), 0);
            check.due("ring(1, 2, 0)", x.ring(1, 2, 0), 7);
            check.due("0 OWES 1", x.between(0, 1, 0), sums[0] - 7);
            check.due("1 OWES 2", x.between(1, 2, 0), sums[1] - 7);
            check.due("2 OWES 0", x.between(2, 0, 0), sums[2] - 7);
            check.due("1 OWES 0", x.between(1, 0, 0), 50);
            long before = x.digest();
            int[][] wrong = {{0, 1, 1}, {0, 0, 1}, {0, 1, 0}, {3, 0, 1}, {0, 3, 1}, {0, 1, 3}, {-1, 0, 1}, {0, -1, 1}, {0, 1, -1}};
            for (int[] w : wrong) {
                check.refused("ring of " + w[0] + w[1] + w[2], x, before, x.ring(w[0], w[1], w[2]), ThanksOwed.UNKNOWN);
            }
        }
    }

    private static void promise15Forgive() {
        ThanksOwed x = check.town("1u30", 0, PERSON, PERSON);
        check.owe(x, 1, 0, 30);
        check.owe(x, 0, 1, 9);
        check.due("forgive(0, 1)", x.forgive(0, 1), 30);
        check.due("OWED no more", x.between(1, 0, 0), 0);
        check.due("FREE goes on", x.between(1, 0, 1), 3);
        check.due("the other way as it was", x.between(0, 1, 0), 9);
        check.due("forgive(0, 1) again", x.forgive(0, 1), 0);
        long before = x.digest();
        check.refused("forgive(0, 0)", x, before, x.forgive(0, 0), ThanksOwed.UNKNOWN);
        check.refused("forgive(2, 0)", x, before, x.forgive(2, 0), ThanksOwed.UNKNOWN);
        check.refused("forgive(0, -1)", x, before, x.forgive(0, -1), ThanksOwed.UNKNOWN);
    }

    private static void promise16Bankrupt() {
        ThanksOwed x = check.town("1u00", 20, PERSON, PERSON, WIDOW, SAINT);
        check.owe(x, 0, 1, 50);
        check.owe(x, 0, 2, 30);
        check.owe(x, 0, 3, 11);
        check.owe(x, 1, 0, 5);
        check.due("bankrupt(0)", x.bankrupt(0), 10 + 6 + 2);
        int[] wealth = {2, 30, 26, 22};
        for (int person = 0; person < 4; person++) {
            check.due("wealth of " + person, x.about(person, 1), wealth[person]);
        }
        check.due("he OWES nobody", x.about(0, 2), 0);
        check.due("he is owed as ever", x.about(0, 3), 5);
        long before = x.digest();
        check.refused("bankrupt(0) again", x, before, x.bankrupt(0), ThanksOwed.STATE);
        check.refused("bankrupt(4)", x, before, x.bankrupt(4), ThanksOwed.UNKNOWN);
        check.refused("bankrupt(-1)", x, before, x.bankrupt(-1), ThanksOwed.UNKNOWN);
    }

    private static void promise16BankruptEdges() {
        ThanksOwed x = check.town("1u00", 50, PERSON, PERSON, PERSON);
        check.owe(x, 0, 1, 3);
        check.owe(x, 0, 2, 4);
        check.due("no more than he OWES", x.bankrupt(0), 7);
        check.due("what is left stays his", x.about(0, 1), 43);
        check.due("1 got", x.about(1, 1), 53);
        check.due("2 got", x.about(2, 1), 54);
        ThanksOwed z = check.town("1u00", 0, PERSON, PERSON);
        check.owe(z, 0, 1, 3);
        check.due("nothing to share", z.bankrupt(0), 0);
        check.due("OWES nothing then", z.about(0, 2), 0);
        check.due("STATE then", z.bankrupt(0), ThanksOwed.STATE);
        ThanksOwed v = check.town("1u00", 7, PERSON, PERSON, PERSON, PERSON, PERSON);
        check.owe(v, 4, 0, 1);
        check.due("who OWES 1 alone", v.bankrupt(4), 1);
        check.due("the first got it", v.about(0, 1), 8);
        check.due("left", v.about(4, 1), 6);
        check.due("OWES nothing then", v.about(4, 2), 0);
    }
}
