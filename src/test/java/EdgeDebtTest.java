/** Promises 11 to 16 sentence by sentence: what grows in a week, paying, setting off, rings, forgiving, bankrupts. */
public final class EdgeDebtTest {
    private static final int PERSON = 0, CHILD = 1, WIDOW = 2, GRUNTER = 3, SAINT = 4;
    private static final int UNKNOWN = ThanksOwed.UNKNOWN, OUTSIDE = ThanksOwed.OUTSIDE, STATE = ThanksOwed.STATE;
    private static final Edge edge = new Edge();

    public static void main(String[] args) {
        edge.run(EdgeDebtTest.class);
    }

    /** An object with two people of these kinds, of whom 0 OWES 1 a sum. */
    private static ThanksOwed owing(String law, int debtor, int creditor, int sum) {
        ThanksOwed x = edge.town(law, 0, debtor, creditor);
        edge.owe(x, 0, 1, sum);
        return x;
    }

    // ---- 11 week

    private static void grows(String law, int debtor, int creditor, int sum, int growth) {
        ThanksOwed x = owing(law, debtor, creditor, sum);
        String told = sum + " by " + law + ", of kinds " + debtor + ", " + creditor;
        edge.due("week() of " + told, x.week(), growth);
        edge.due("grown " + told, x.between(0, 1, 0), sum + growth);
    }

    @Sentence(promise = 11, words = "\"u\" rounded up")
    static void brokenOnesUp() {
        int[][] sums = {{1, 1}, {9, 1}, {10, 1}, {11, 2}, {19, 2}, {20, 2}, {21, 3}};
        for (int[] sum : sums) {
            grows("1u00", PERSON, PERSON, sum[0], sum[1]);
        }
    }

    @Sentence(promise = 11, words = "\"d\" rounded down")
    static void brokenOnesDown() {
        int[][] sums = {{1, 0}, {9, 0}, {10, 1}, {11, 1}, {19, 1}, {20, 2}, {21, 2}};
        for (int[] sum : sums) {
            grows("1d00", PERSON, PERSON, sum[0], sum[1]);
        }
    }

    @Sentence(promise = 11, words = "RATE (0 to 9, in TENTHS a WEEK)")
    static void everyRate() {
        for (int rate = 0; rate <= 9; rate++) {
            grows(rate + "u00", PERSON, PERSON, 10, rate);
            grows(rate + "d00", PERSON, PERSON, 90, 9 * rate);
        }
        grows("0u00", PERSON, WIDOW, 99, 0);
        grows("9u00", PERSON, PERSON, 1, 1);
        grows("9d00", PERSON, PERSON, 1, 0);
    }

    @Sentence(promise = 11, words = "by how much all that is OWED GROWS together")
    static void nothingOwedDoesNotGrow() {
        ThanksOwed x = edge.town("9u00", 50, PERSON, WIDOW, PERSON);
        edge.due("week()", x.week(), 0);
        edge.due("count(8)", x.count(8), 0);
    }

    @Sentence(promise = 11, words = "by how much all that is OWED GROWS together")
    static void weekOfNobody() {
        ThanksOwed x = new ThanksOwed();
        edge.due("week()", x.week(), 0);
        edge.due("WEEKS", x.count(6), 1);
    }

    @Sentence(promise = 11, words = "what each OWES each GROWS")
    static void allDebtsOfFivePeople() {
        ThanksOwed x = edge.town("1u00", 0, PERSON, PERSON, PERSON, PERSON, PERSON);
        for (int debtor = 0; debtor < 5; debtor++) {
            for (int creditor = 0; creditor < 5; creditor++) {
                if (debtor != creditor) {
                    edge.owe(x, debtor, creditor, 10);
                }
            }
        }
        edge.due("week()", x.week(), 20);
        edge.due("count(8)", x.count(8), 220);
        edge.due("the first debt", x.between(0, 1, 0), 11);
        edge.due("the last debt", x.between(4, 3, 0), 11);
    }

    @Sentence(promise = 11, words = "if it is not FREE still")
    static void freeWeeksDoNotGrow() {
        for (int free = 0; free <= 9; free++) {
            ThanksOwed x = owing("1u" + free + "0", PERSON, PERSON, 10);
            for (int n = 0; n < free; n++) {
                edge.due("FREE " + free + ", behind " + n, x.week(), 0);
            }
            edge.due("FREE " + free + ", no more", x.week(), 1);
        }
    }

    @Sentence(promise = 11, words = "what a CHILD OWES does not")
    static void childsDebts() {
        grows("9u00", CHILD, PERSON, 99, 0);
        grows("9u00", CHILD, CHILD, 99, 0);
        grows("9u00", CHILD, GRUNTER, 99, 0);
        grows("9u00", PERSON, CHILD, 10, 9);
    }

    @Sentence(promise = 11, words = "what a CHILD OWES does not; what is owed a WIDOW by twice as many TENTHS")
    static void childsDebtToAWidow() {
        grows("9u00", CHILD, WIDOW, 99, 0);
    }

    @Sentence(promise = 11, words = "what is owed a WIDOW by twice as many TENTHS")
    static void widowsDebts() {
        // Twice the TENTHS are rounded once: 6 TENTHS of one, then 10, and twice 9 TENTHS of 99.
        grows("1u00", PERSON, WIDOW, 3, 1);
        grows("1d00", PERSON, WIDOW, 5, 1);
        grows("1d00", PERSON, WIDOW, 4, 0);
        grows("1u00", PERSON, WIDOW, 6, 2);
        grows("9u00", PERSON, WIDOW, 99, 179);
        grows("9d00", PERSON, WIDOW, 99, 178);
        grows("9d00", WIDOW, WIDOW, 10, 18);
        grows("9d00", WIDOW, PERSON, 10, 9);
    }

    @Sentence(promise = 11, words = "what is owed a SAINT does not")
    static void saintsDebts() {
        grows("9u00", PERSON, SAINT, 99, 0);
        grows("9u00", WIDOW, SAINT, 99, 0);
        grows("9u00", CHILD, SAINT, 99, 0);
        grows("9u00", PERSON, GRUNTER, 10, 9);
    }

    @Sentence(promise = 11, words = "What one OWES another one is 0 to 9999 (what is above is lost)")
    static void greatestDebtByGrowing() {
        grows("1d00", PERSON, PERSON, 9090, 909);
        grows("1d00", PERSON, PERSON, 9091, 908);
        grows("9u00", PERSON, WIDOW, 9998, 1);
        grows("9u00", PERSON, WIDOW, 9999, 0);
    }

    @Sentence(promise = 11, words = "Then all FREE and OFFENDED WEEKS are one fewer")
    static void freeWeeksFewer() {
        ThanksOwed x = owing("1u90", PERSON, PERSON, 10);
        for (int left = 9; left > 0; left--) {
            edge.due("FREE", x.between(0, 1, 1), left);
            x.week();
        }
        for (int n = 0; n < 3; n++) {
            edge.due("FREE no more", x.between(0, 1, 1), 0);
            edge.due("the other way", x.between(1, 0, 1), 0);
            x.week();
        }
    }

    @Sentence(promise = 11, words = "Then all FREE and OFFENDED WEEKS are one fewer")
    static void freeWeeksFewerWithNothingOwed() {
        ThanksOwed x = owing("1u20", PERSON, PERSON, 10);
        x.forgive(1, 0);
        edge.due("FREE", x.between(0, 1, 1), 2);
        x.week();
        edge.due("FREE", x.between(0, 1, 1), 1);
        x.week();
        edge.due("FREE no more", x.between(0, 1, 1), 0);
    }

    @Sentence(promise = 11, words = "Then all FREE and OFFENDED WEEKS are one fewer")
    static void offendedWeeksFewer() {
        ThanksOwed x = edge.town("1u09", 0, PERSON, PERSON);
        x.favour(0, 1, 10, false);
        for (int left = 9; left > 0; left--) {
            edge.due("OFFENDED", x.between(0, 1, 2), left);
            x.week();
        }
        for (int n = 0; n < 3; n++) {
            edge.due("OFFENDED no more", x.between(0, 1, 2), 0);
            edge.due("the other way", x.between(1, 0, 2), 0);
            x.week();
        }
    }

    @Sentence(promise = 11, words = "An object is used for at most 512 calls after it has been made")
    static void asManyWeeksAsAnObjectCanTell() {
        ThanksOwed x = new ThanksOwed();
        x.person(PERSON, 0);
        x.person(WIDOW, 0);
        x.favour(1, 0, 1, true);
        for (int n = 0; n < 507; n++) {
            x.week();
        }
        edge.due("WEEKS", x.count(6), 507);
        edge.due("the 512th call", x.between(0, 1, 0), 9999);
    }

    // ---- 12 pay

    @Sentence(promise = 12, words = "UNKNOWN: b, a")
    static void payOfUnknownPeople() {
        edge.range(edge::rich, "pay(b, 1, 1)", (x, n) -> x.pay(n, 1, 1), 0, 3, UNKNOWN);
        edge.range(edge::rich, "pay(1, a, 1)", (x, n) -> x.pay(1, n, 1), 0, 3, UNKNOWN);
        edge.refuses(ThanksOwed::new, "pay(0, 1, 1)", x -> x.pay(0, 1, 1), UNKNOWN);
    }

    @Sentence(promise = 12, words = "or they are the same")
    static void payOneself() {
        for (int n = 0; n < 5; n++) {
            int same = n;
            edge.refuses(edge::full, "pay(n, n, 1) of " + n, x -> x.pay(same, same, 1), UNKNOWN);
        }
    }

    @Sentence(promise = 12, words = "OUTSIDE: sum (1 to 999)")
    static void paySums() {
        edge.range(edge::rich, "pay(0, 1, sum)", (x, n) -> x.pay(0, 1, n), 1, 999, OUTSIDE);
        edge.due("the least", edge.rich().pay(0, 1, 1), 29);
        edge.refuses(edge::rich, "the greatest, which he has not", x -> x.pay(0, 1, 999), STATE);
    }

    private static ThanksOwed withDebt(int wealth, int sum) {
        ThanksOwed x = edge.town("1u30", wealth, PERSON, PERSON, PERSON);
        edge.owe(x, 0, 1, sum);
        return x;
    }

    @Sentence(promise = 12, words = "STATE: he has less WEALTH")
    static void payOfAllHisWealth() {
        ThanksOwed x = withDebt(20, 30);
        edge.due("as much as he has", x.pay(0, 1, 20), 10);
        edge.due("his WEALTH", x.about(0, 1), 0);
        edge.due("and no more", x.pay(0, 1, 1), STATE);
        edge.refuses(() -> withDebt(20, 30), "one more than he has", y -> y.pay(0, 1, 21), STATE);
        edge.refuses(() -> withDebt(0, 30), "of no WEALTH", y -> y.pay(0, 1, 1), STATE);
    }

    @Sentence(promise = 12, words = "STATE: he has less WEALTH, OWES him less")
    static void payOfAllHeOwes() {
        ThanksOwed x = withDebt(30, 20);
        edge.due("as much as he OWES", x.pay(0, 1, 20), 0);
        edge.due("what he OWES", x.about(0, 2), 0);
        edge.due("and no more", x.pay(0, 1, 1), STATE);
        edge.refuses(() -> withDebt(30, 20), "one more than he OWES", y -> y.pay(0, 1, 21), STATE);
        edge.refuses(() -> withDebt(30, 20), "to one whom he OWES nothing", y -> y.pay(0, 2, 1), STATE);
        edge.refuses(() -> withDebt(30, 20), "to one who OWES him", y -> y.pay(1, 0, 1), STATE);
    }

    private static ThanksOwed payingARichOne(int wealth) {
        ThanksOwed x = withDebt(30, 20);
        edge.enrich(x, 1, wealth);
        return x;
    }

    @Sentence(promise = 12, words = "or a would have more than 999")
    static void payToARichOne() {
        ThanksOwed x = payingARichOne(989);
        edge.due("to 999", x.pay(0, 1, 10), 10);
        edge.due("his WEALTH", x.about(1, 1), 999);
        edge.refuses(() -> payingARichOne(990), "to 1000", y -> y.pay(0, 1, 10), STATE);
        edge.refuses(() -> payingARichOne(999), "one more", y -> y.pay(0, 1, 1), STATE);
    }

    @Sentence(promise = 12, words = "OUTSIDE: sum (1 to 999)")
    static void payTheGreatestSum() {
        ThanksOwed x = edge.town("1u00", 0, PERSON, PERSON);
        edge.owe(x, 0, 1, 1000);
        edge.enrich(x, 0, 999);
        edge.due("pay(0, 1, 999)", x.pay(0, 1, 999), 1);
        edge.due("WEALTH of b", x.about(0, 1), 0);
        edge.due("WEALTH of a", x.about(1, 1), 999);
    }

    @Sentence(promise = 12, words = "UNKNOWN: b, a, or they are the same; OUTSIDE: sum (1 to 999)")
    static void payUnknownAheadOfOutside() {
        edge.refuses(edge::rich, "pay(4, 0, 0)", x -> x.pay(4, 0, 0), UNKNOWN);
        edge.refuses(edge::rich, "pay(0, -1, 1000)", x -> x.pay(0, -1, 1000), UNKNOWN);
        edge.refuses(edge::rich, "pay(1, 1, 0)", x -> x.pay(1, 1, 0), UNKNOWN);
    }

    @Sentence(promise = 12, words = "UNKNOWN: b, a, or they are the same; OUTSIDE: sum (1 to 999); STATE")
    static void payUnknownAheadOfState() {
        edge.refuses(edge::rich, "more than he has, to himself", x -> x.pay(3, 3, 500), UNKNOWN);
        edge.refuses(edge::rich, "more than he has, to nobody", x -> x.pay(3, 4, 500), UNKNOWN);
    }

    @Sentence(promise = 12, words = "OUTSIDE: sum (1 to 999); STATE: he has less WEALTH")
    static void payOutsideAheadOfState() {
        edge.refuses(edge::rich, "1000 of 40", x -> x.pay(0, 1, 1000), OUTSIDE);
        edge.refuses(edge::rich, "0 to one whom he OWES nothing", x -> x.pay(3, 0, 0), OUTSIDE);
    }

    @Sentence(promise = 12, words = "WEALTH goes from b to a, as much less b OWES a")
    static void payMovesWealth() {
        ThanksOwed x = withDebt(20, 15);
        edge.owe(x, 1, 0, 9);
        edge.due("pay(0, 1, 6)", x.pay(0, 1, 6), 9);
        edge.due("WEALTH of b", x.about(0, 1), 14);
        edge.due("WEALTH of a", x.about(1, 1), 26);
        edge.due("WEALTH of another", x.about(2, 1), 20);
        edge.due("what a OWES b", x.between(1, 0, 0), 9);
        edge.due("FREE as before", x.between(0, 1, 1), 3);
    }

    // ---- 13 setOff

    @Sentence(promise = 13, words = "UNKNOWN: a, b")
    static void setOffOfUnknownPeople() {
        edge.range(edge::rich, "setOff(a, 1)", (x, n) -> x.setOff(n, 1), 0, 3, UNKNOWN);
        edge.range(edge::rich, "setOff(1, b)", (x, n) -> x.setOff(1, n), 0, 3, UNKNOWN);
        edge.refuses(ThanksOwed::new, "setOff(0, 1)", x -> x.setOff(0, 1), UNKNOWN);
    }

    @Sentence(promise = 13, words = "or they are the same")
    static void setOffOneself() {
        for (int n = 0; n < 5; n++) {
            int same = n;
            edge.refuses(edge::full, "setOff(n, n) of " + n, x -> x.setOff(same, same), UNKNOWN);
        }
    }

    private static void setsOff(int there, int back, int taken) {
        ThanksOwed x = edge.town("1u30", 5, PERSON, PERSON);
        edge.owe(x, 0, 1, there);
        edge.owe(x, 1, 0, back);
        edge.due("setOff() of " + there + " and " + back, x.setOff(0, 1), taken);
        edge.due("what 0 OWES", x.between(0, 1, 0), there - taken);
        edge.due("what 1 OWES", x.between(1, 0, 0), back - taken);
        edge.due("setOff() again", x.setOff(1, 0), 0);
        edge.due("WEALTH", x.about(0, 1), 5);
    }

    @Sentence(promise = 13, words = "of what two OWE each other the lesser is taken off both")
    static void lesserIsSetOff() {
        setsOff(7, 8, 7);
        setsOff(8, 7, 7);
        setsOff(8, 8, 8);
        setsOff(1, 99, 1);
    }

    @Sentence(promise = 13, words = "how much is taken off each")
    static void nothingIsSetOff() {
        setsOff(0, 0, 0);
        setsOff(8, 0, 0);
        setsOff(0, 8, 0);
        edge.changesNothing(edge::rich, "setOff() of one debt", x -> x.setOff(1, 2));
    }

    @Sentence(promise = 13, words = "how much is taken off each")
    static void greatestSetOff() {
        setsOff(9999, 9998, 9998);
        setsOff(9999, 9999, 9999);
    }

    // ---- 14 ring

    @Sentence(promise = 14, words = "UNKNOWN: a, b, c")
    static void ringOfUnknownPeople() {
        edge.range(edge::rich, "ring(a, 1, 2)", (x, n) -> x.ring(n, 1, 2), 0, 3, UNKNOWN);
        edge.range(edge::rich, "ring(1, b, 2)", (x, n) -> x.ring(1, n, 2), 0, 3, UNKNOWN);
        edge.range(edge::rich, "ring(1, 2, c)", (x, n) -> x.ring(1, 2, n), 0, 3, UNKNOWN);
        edge.refuses(ThanksOwed::new, "ring(0, 1, 2)", x -> x.ring(0, 1, 2), UNKNOWN);
    }

    @Sentence(promise = 14, words = "or two are the same")
    static void ringOfTheSame() {
        edge.refuses(edge::rich, "ring(0, 0, 1)", x -> x.ring(0, 0, 1), UNKNOWN);
        edge.refuses(edge::rich, "ring(0, 1, 0)", x -> x.ring(0, 1, 0), UNKNOWN);
        edge.refuses(edge::rich, "ring(1, 0, 0)", x -> x.ring(1, 0, 0), UNKNOWN);
        edge.refuses(edge::rich, "ring(0, 0, 0)", x -> x.ring(0, 0, 0), UNKNOWN);
    }

    private static void clears(int first, int second, int third, int taken) {
        ThanksOwed x = edge.town("1u30", 5, PERSON, PERSON, PERSON);
        edge.owe(x, 0, 1, first);
        edge.owe(x, 1, 2, second);
        edge.owe(x, 2, 0, third);
        edge.owe(x, 0, 2, 4);
        edge.due("ring() of " + first + ", " + second + ", " + third, x.ring(0, 1, 2), taken);
        edge.due("what 0 OWES 1", x.between(0, 1, 0), first - taken);
        edge.due("what 1 OWES 2", x.between(1, 2, 0), second - taken);
        edge.due("what 2 OWES 0", x.between(2, 0, 0), third - taken);
        edge.due("what is not in the ring", x.between(0, 2, 0), 4);
        edge.due("ring() again", x.ring(1, 2, 0), 0);
    }

    @Sentence(promise = 14, words = "the least is taken off all")
    static void leastIsTakenOff() {
        clears(7, 8, 9, 7);
        clears(8, 7, 9, 7);
        clears(9, 8, 7, 7);
        clears(7, 7, 7, 7);
        clears(1, 99, 99, 1);
        clears(8, 8, 9, 8);
    }

    @Sentence(promise = 14, words = "how much is taken off each")
    static void nothingIsTakenOff() {
        clears(0, 8, 8, 0);
        clears(8, 0, 8, 0);
        clears(8, 8, 0, 0);
        clears(0, 0, 0, 0);
        edge.changesNothing(edge::rich, "ring() the wrong way round", x -> x.ring(0, 3, 1));
    }

    @Sentence(promise = 14, words = "of what a row of unlike PEOPLE OWE, each the next one, the last the first")
    static void ringHasAWayRound() {
        ThanksOwed x = edge.town("1u00", 0, PERSON, PERSON, PERSON);
        edge.owe(x, 0, 1, 5);
        edge.owe(x, 1, 2, 6);
        edge.owe(x, 2, 0, 7);
        edge.due("ring(0, 2, 1)", x.ring(0, 2, 1), 0);
        edge.due("ring(2, 1, 0)", x.ring(2, 1, 0), 0);
        edge.due("count(8)", x.count(8), 18);
        edge.due("ring(2, 0, 1)", x.ring(2, 0, 1), 5);
        edge.due("count(8)", x.count(8), 3);
    }

    // ---- 15 forgive

    @Sentence(promise = 15, words = "UNKNOWN: a, b")
    static void forgiveOfUnknownPeople() {
        edge.range(edge::rich, "forgive(a, 1)", (x, n) -> x.forgive(n, 1), 0, 3, UNKNOWN);
        edge.range(edge::rich, "forgive(1, b)", (x, n) -> x.forgive(1, n), 0, 3, UNKNOWN);
        edge.refuses(ThanksOwed::new, "forgive(0, 1)", x -> x.forgive(0, 1), UNKNOWN);
    }

    @Sentence(promise = 15, words = "or they are the same")
    static void forgiveOneself() {
        for (int n = 0; n < 5; n++) {
            int same = n;
            edge.refuses(edge::full, "forgive(n, n) of " + n, x -> x.forgive(same, same), UNKNOWN);
        }
    }

    @Sentence(promise = 15, words = "What b OWES a is FORGIVEN: how much")
    static void forgiveNothing() {
        edge.changesNothing(edge::rich, "forgive(3, 0)", x -> x.forgive(3, 0));
        edge.due("forgive(3, 0)", edge.rich().forgive(3, 0), 0);
    }

    @Sentence(promise = 15, words = "What b OWES a is FORGIVEN: how much")
    static void forgiveFromTheLeastToTheGreatest() {
        int[] sums = {1, 99, 9999};
        for (int sum : sums) {
            ThanksOwed x = owing("1u00", PERSON, PERSON, sum);
            edge.owe(x, 1, 0, 3);
            edge.due("forgive(1, 0) of " + sum, x.forgive(1, 0), sum);
            edge.due("OWED no more", x.between(0, 1, 0), 0);
            edge.due("what a OWES b", x.between(1, 0, 0), 3);
            edge.due("forgive(1, 0) again", x.forgive(1, 0), 0);
        }
    }

    // ---- 16 bankrupt

    @Sentence(promise = 16, words = "UNKNOWN")
    static void bankruptOfUnknownPeople() {
        edge.range(edge::rich, "bankrupt(person)", (x, n) -> x.bankrupt(n), 0, 3, UNKNOWN);
        edge.refuses(ThanksOwed::new, "bankrupt(0)", x -> x.bankrupt(0), UNKNOWN);
    }

    @Sentence(promise = 16, words = "STATE: he OWES nothing")
    static void bankruptOfOneWhoOwesNothing() {
        edge.refuses(edge::rich, "bankrupt(3)", x -> x.bankrupt(3), STATE);
        ThanksOwed x = edge.town("1u00", 0, PERSON, PERSON);
        edge.owe(x, 0, 1, 9);
        edge.due("one who is owed alone", x.bankrupt(1), STATE);
        edge.due("one who OWES", x.bankrupt(0), 0);
        edge.due("he OWES nothing then", x.bankrupt(0), STATE);
    }

    /** One of this wealth OWES the next ones these sums, goes bankrupt, and they get these parts; all had 50. */
    private static void shares(int wealth, int[] sums, int[] parts) {
        ThanksOwed x = edge.town("1u00", 50);
        x.person(PERSON, wealth);
        int gone = 0;
        for (int n = 0; n < sums.length; n++) {
            x.person(PERSON, 50);
            edge.owe(x, 0, n + 1, sums[n]);
            gone += parts[n];
        }
        edge.due("bankrupt(0) of " + wealth, x.bankrupt(0), gone);
        edge.due("what is left", x.about(0, 1), wealth - gone);
        edge.due("what he OWES", x.about(0, 2), 0);
        for (int n = 0; n < sums.length; n++) {
            edge.due("WEALTH of " + (n + 1), x.about(n + 1, 1), 50 + parts[n]);
        }
    }

    @Sentence(promise = 16, words = "as many parts as he OWES him of all that he OWES (rounded down")
    static void partsAreRoundedDown() {
        shares(10, new int[] {10, 10, 10}, new int[] {3, 3, 3});
        shares(99, new int[] {50, 50}, new int[] {49, 49});
        shares(20, new int[] {99, 1}, new int[] {19, 0});
        shares(1, new int[] {1, 1}, new int[] {0, 0});
        shares(2, new int[] {1, 2, 3, 4}, new int[] {0, 0, 0, 0});
    }

    @Sentence(promise = 16, words = "as many parts as he OWES him of all that he OWES")
    static void partsThatAreWhole() {
        shares(10, new int[] {10, 30}, new int[] {2, 7});
        shares(12, new int[] {10, 30}, new int[] {3, 9});
        shares(11, new int[] {99}, new int[] {11});
        shares(99, new int[] {9999, 9999, 9999, 9999}, new int[] {24, 24, 24, 24});
    }

    @Sentence(promise = 16, words = "and no more than he OWES him")
    static void partsAreNoMoreThanOwed() {
        shares(30, new int[] {30}, new int[] {30});
        shares(31, new int[] {30}, new int[] {30});
        shares(29, new int[] {30}, new int[] {29});
        shares(99, new int[] {1, 2, 3, 4}, new int[] {1, 2, 3, 4});
        shares(10, new int[] {1, 2, 3, 4}, new int[] {1, 2, 3, 4});
    }

    @Sentence(promise = 16, words = "what is left stays his")
    static void nothingToShare() {
        shares(0, new int[] {5, 7}, new int[] {0, 0});
        shares(0, new int[] {9999}, new int[] {0});
    }

    @Sentence(promise = 16, words = "each whom he OWES gets")
    static void whoIsNotOwedGetsNothing() {
        shares(9, new int[] {0, 5, 0, 0}, new int[] {0, 5, 0, 0});
        shares(4, new int[] {5, 0, 0, 5}, new int[] {2, 0, 0, 2});
    }

    @Sentence(promise = 16, words = "each whom he OWES gets")
    static void lastOneOwesTheFirst() {
        ThanksOwed x = edge.town("1u00", 7, PERSON, PERSON, PERSON, PERSON, PERSON);
        edge.owe(x, 4, 0, 5);
        edge.due("bankrupt(4)", x.bankrupt(4), 5);
        edge.due("WEALTH of 0", x.about(0, 1), 12);
        edge.due("WEALTH of 4", x.about(4, 1), 2);
        edge.due("what 4 OWES", x.about(4, 2), 0);
    }

    @Sentence(promise = 16, words = "STATE: he OWES nothing")
    static void bankruptOfOneWhoOwesTheLeast() {
        shares(5, new int[] {1}, new int[] {1});
        shares(1, new int[] {1}, new int[] {1});
        shares(0, new int[] {1}, new int[] {0});
    }

    private static ThanksOwed owingARichOne(int wealth) {
        ThanksOwed x = edge.town("1u00", 20, PERSON, PERSON, PERSON);
        edge.owe(x, 0, 1, 40);
        edge.owe(x, 0, 2, 40);
        edge.enrich(x, 1, wealth);
        return x;
    }

    @Sentence(promise = 16, words = "nobody has more than 999, what is above is lost")
    static void partsOfARichOne() {
        int[] before = {988, 989, 990, 999};
        int[] behind = {998, 999, 999, 999};
        for (int n = 0; n < before.length; n++) {
            ThanksOwed x = owingARichOne(before[n]);
            edge.due("he has not any more", x.bankrupt(0), 20);
            edge.due("who had " + before[n], x.about(1, 1), behind[n]);
            edge.due("the other one", x.about(2, 1), 30);
            edge.due("what is left", x.about(0, 1), 0);
        }
    }

    @Sentence(promise = 16, words = "he OWES nobody anything then")
    static void bankruptKeepsWhatHeIsOwed() {
        ThanksOwed x = edge.rich();
        edge.due("bankrupt(0)", x.bankrupt(0), 39);
        edge.due("what he OWES", x.about(0, 2), 0);
        edge.due("what he is owed", x.about(0, 3), 32);
        edge.due("his WEALTH", x.about(0, 1), 1);
        edge.due("WEALTH of 1, owed 30 of 45", x.about(1, 1), 56);
        edge.due("WEALTH of 2, owed 15 of 45", x.about(2, 1), 33);
        edge.due("WEALTH of 3", x.about(3, 1), 10);
        edge.due("FREE as before", x.between(0, 1, 1), 2);
    }
}
