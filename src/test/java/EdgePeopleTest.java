/** Promises 6 to 10 sentence by sentence: nobody and five people, kinds, NET about 0, favours, thanks and grunts. */
public final class EdgePeopleTest {
    private static final int PERSON = 0, CHILD = 1, WIDOW = 2, GRUNTER = 3, SAINT = 4;
    private static final int NONE = ThanksOwed.NONE, UNKNOWN = ThanksOwed.UNKNOWN, OUTSIDE = ThanksOwed.OUTSIDE;
    private static final int STATE = ThanksOwed.STATE, FULL = ThanksOwed.FULL;
    private static final Edge edge = new Edge();

    public static void main(String[] args) {
        edge.run(EdgePeopleTest.class);
    }

    // ---- 6 person

    @Sentence(promise = 6, words = "OUTSIDE: kind")
    static void kinds() {
        edge.range(edge::rich, "person(kind, 5)", (x, n) -> x.person(n, 5), 0, 4, OUTSIDE);
    }

    @Sentence(promise = 6, words = "wealth (0 to 99)")
    static void firstWealth() {
        edge.range(edge::rich, "person(0, wealth)", (x, n) -> x.person(0, n), 0, 99, OUTSIDE);
    }

    @Sentence(promise = 6, words = "wealth (0 to 99)")
    static void leastAndGreatestWealthAreHis() {
        ThanksOwed x = new ThanksOwed();
        x.person(PERSON, 0);
        x.person(PERSON, 99);
        edge.due("about(0, 1)", x.about(0, 1), 0);
        edge.due("about(1, 1)", x.about(1, 1), 99);
    }

    @Sentence(promise = 6, words = "A PERSON: his number")
    static void numbersFromTheFirstToTheFifth() {
        ThanksOwed x = new ThanksOwed();
        for (int n = 0; n < 5; n++) {
            edge.due("person(" + n + ", 7)", x.person(n, 7), n);
            edge.due("about(" + n + ", 0)", x.about(n, 0), n);
        }
    }

    @Sentence(promise = 6, words = "FULL")
    static void sixthPerson() {
        edge.refuses(edge::full, "person(0, 0)", x -> x.person(0, 0), FULL);
        edge.refuses(edge::full, "person(4, 99)", x -> x.person(4, 99), FULL);
    }

    @Sentence(promise = 6, words = "PEOPLE (5 at most, numbered)")
    static void fifthPerson() {
        ThanksOwed x = edge.rich();
        edge.due("the fifth", x.person(0, 0), 4);
        edge.due("count(4)", x.count(4), 5);
    }

    @Sentence(promise = 6, words = "FULL")
    static void fullNoMoreBehindRestore() {
        ThanksOwed x = edge.full();
        edge.due("restore()", x.restore(), 0);
        edge.due("the fifth again", x.person(CHILD, 3), 4);
        edge.due("a sixth", x.person(CHILD, 3), FULL);
    }

    @Sentence(promise = 6, words = "OUTSIDE: kind, wealth (0 to 99); FULL")
    static void outsideAheadOfFull() {
        edge.refuses(edge::full, "person(-1, 0)", x -> x.person(-1, 0), OUTSIDE);
        edge.refuses(edge::full, "person(5, 0)", x -> x.person(5, 0), OUTSIDE);
        edge.refuses(edge::full, "person(0, -1)", x -> x.person(0, -1), OUTSIDE);
        edge.refuses(edge::full, "person(0, 100)", x -> x.person(0, 100), OUTSIDE);
    }

    @Sentence(promise = 6, words = "A PERSON: his number")
    static void newPersonHasNoDebts() {
        ThanksOwed x = edge.rich();
        int number = x.person(PERSON, 8);
        edge.due("what he OWES", x.about(number, 2), 0);
        edge.due("what he is owed", x.about(number, 3), 0);
        for (int other = 0; other < number; other++) {
            for (int what = 0; what <= 2; what++) {
                edge.due("between(4, " + other + ", " + what + ")", x.between(number, other, what), 0);
                edge.due("between(" + other + ", 4, " + what + ")", x.between(other, number, what), 0);
            }
        }
    }

    // ---- 7 about

    @Sentence(promise = 7, words = "UNKNOWN")
    static void aboutUnknownPeople() {
        edge.range(edge::rich, "about(person, 0)", (x, n) -> x.about(n, 0), 0, 3, UNKNOWN);
        edge.range(edge::full, "about(person, 0) of five", (x, n) -> x.about(n, 0), 0, 4, UNKNOWN);
    }

    @Sentence(promise = 7, words = "UNKNOWN")
    static void aboutNobody() {
        edge.refuses(ThanksOwed::new, "about(0, 0)", x -> x.about(0, 0), UNKNOWN);
    }

    @Sentence(promise = 7, words = "UNKNOWN; OUTSIDE")
    static void aboutUnknownAheadOfOutside() {
        edge.refuses(edge::rich, "about(4, 6)", x -> x.about(4, 6), UNKNOWN);
        edge.refuses(edge::rich, "about(-1, -1)", x -> x.about(-1, -1), UNKNOWN);
    }

    @Sentence(promise = 7, words = "OUTSIDE")
    static void aboutWhat() {
        edge.range(edge::rich, "about(1, what)", (x, n) -> x.about(1, n), 0, 5, OUTSIDE);
    }

    @Sentence(promise = 7, words = "what = 0 KIND, 1 WEALTH, 2 what he OWES all, 3 what all OWE him, 4 NET")
    static void aboutEach() {
        int[][] due = {{0, 40, 45, 32, 27, 0}, {2, 30, 29, 30, 31, 0}, {1, 20, 12, 24, 32, 0}, {3, 10, 0, 0, 10, 0}};
        ThanksOwed x = edge.rich();
        for (int person = 0; person < due.length; person++) {
            for (int what = 0; what <= 5; what++) {
                edge.due("about(" + person + ", " + what + ")", x.about(person, what), due[person][what]);
            }
        }
    }

    @Sentence(promise = 7, words = "RUINED is he whose NET is below 0")
    static void netOfZeroIsNoRuin() {
        ThanksOwed x = edge.town("1u00", 10, PERSON, PERSON);
        edge.owe(x, 0, 1, 9);
        edge.due("NET of 1", x.about(0, 4), 1);
        edge.due("no RUIN", x.about(0, 5), 0);
        edge.owe(x, 0, 1, 1);
        edge.due("NET of 0", x.about(0, 4), 0);
        edge.due("no RUIN", x.about(0, 5), 0);
        edge.owe(x, 0, 1, 1);
        edge.due("NET of -1", x.about(0, 4), -1);
        edge.due("RUIN", x.about(0, 5), 1);
    }

    @Sentence(promise = 7, words = "What one OWES another one is 0 to 9999")
    static void greatestDebts() {
        ThanksOwed x = edge.town("9u00", 0, PERSON, WIDOW, WIDOW, WIDOW, WIDOW);
        for (int creditor = 1; creditor < 5; creditor++) {
            edge.owe(x, 0, creditor, 99);
        }
        edge.weeks(x, 6);
        edge.due("what he OWES all", x.about(0, 2), 39996);
        edge.due("his NET", x.about(0, 4), -39996);
        edge.due("what he is owed", x.about(1, 3), 9999);
        ThanksOwed y = edge.town("9u00", 99, WIDOW, PERSON, PERSON, PERSON, PERSON);
        for (int debtor = 1; debtor < 5; debtor++) {
            edge.owe(y, debtor, 0, 99);
        }
        edge.weeks(y, 6);
        edge.due("what all OWE her", y.about(0, 3), 39996);
        edge.due("her NET", y.about(0, 4), 40095);
    }

    @Sentence(promise = 7, words = "Of a PERSON")
    static void aboutNothing() {
        ThanksOwed x = edge.town("9u99", 0, PERSON);
        int[] due = {0, 0, 0, 0, 0, 0};
        for (int what = 0; what <= 5; what++) {
            edge.due("one alone: about(0, " + what + ")", x.about(0, what), due[what]);
        }
    }

    // ---- 8 as

    @Sentence(promise = 8, words = "UNKNOWN")
    static void asUnknownPeople() {
        edge.range(edge::rich, "as(person, 0)", (x, n) -> x.as(n, 0), 0, 3, UNKNOWN);
        edge.refuses(ThanksOwed::new, "as(0, 0)", x -> x.as(0, 0), UNKNOWN);
    }

    @Sentence(promise = 8, words = "OUTSIDE")
    static void asKind() {
        edge.range(edge::rich, "as(1, kind)", (x, n) -> x.as(1, n), 0, 4, OUTSIDE);
    }

    @Sentence(promise = 8, words = "UNKNOWN; OUTSIDE")
    static void asUnknownAheadOfOutside() {
        edge.refuses(edge::rich, "as(4, 5)", x -> x.as(4, 5), UNKNOWN);
        edge.refuses(edge::rich, "as(-1, -1)", x -> x.as(-1, -1), UNKNOWN);
    }

    @Sentence(promise = 8, words = "his own number (not that of the KIND)")
    static void asHisOwnNumber() {
        ThanksOwed x = edge.town("1u00", 0, SAINT, GRUNTER, CHILD, WIDOW, PERSON);
        int[] kinds = {SAINT, GRUNTER, CHILD, WIDOW, PERSON};
        for (int person = 0; person < 5; person++) {
            edge.due("as(" + person + ", his kind)", x.as(person, kinds[person]), person);
        }
    }

    @Sentence(promise = 8, words = "All are PERSONS")
    static void allArePersons() {
        ThanksOwed x = edge.town("1u00", 0, SAINT, GRUNTER, CHILD, WIDOW, PERSON);
        for (int person = 0; person < 5; person++) {
            edge.due("as(" + person + ", 0)", x.as(person, PERSON), person);
        }
    }

    @Sentence(promise = 8, words = "a SAINT is a GRUNTER, too")
    static void saintIsAGrunter() {
        ThanksOwed x = edge.town("1u00", 0, PERSON, SAINT, GRUNTER);
        edge.due("a saint as a GRUNTER", x.as(1, GRUNTER), 1);
        edge.due("a grunter as a SAINT", x.as(2, SAINT), NONE);
    }

    @Sentence(promise = 8, words = "NONE: he is none such (the cast fails)")
    static void noneSuch() {
        ThanksOwed x = edge.town("1u00", 0, PERSON, CHILD, WIDOW, GRUNTER, SAINT);
        int[][] none = {
            {0, CHILD}, {0, WIDOW}, {0, GRUNTER}, {0, SAINT}, {1, WIDOW}, {1, GRUNTER}, {1, SAINT}, {2, CHILD}, {2, GRUNTER},
            {2, SAINT}, {3, CHILD}, {3, WIDOW}, {3, SAINT}, {4, CHILD}, {4, WIDOW}};
        for (int[] cast : none) {
            edge.due("as(" + cast[0] + ", " + cast[1] + ")", x.as(cast[0], cast[1]), NONE);
        }
    }

    // ---- 9 between

    @Sentence(promise = 9, words = "UNKNOWN: a, b")
    static void betweenUnknownPeople() {
        edge.range(edge::rich, "between(a, 1, 0)", (x, n) -> x.between(n, 1, 0), 0, 3, UNKNOWN);
        edge.range(edge::rich, "between(1, b, 0)", (x, n) -> x.between(1, n, 0), 0, 3, UNKNOWN);
        edge.refuses(ThanksOwed::new, "between(0, 1, 0)", x -> x.between(0, 1, 0), UNKNOWN);
    }

    @Sentence(promise = 9, words = "or they are the same")
    static void betweenTheSame() {
        for (int n = 0; n < 5; n++) {
            int same = n;
            edge.refuses(edge::full, "between(n, n, 0) of " + n, x -> x.between(same, same, 0), UNKNOWN);
        }
    }

    @Sentence(promise = 9, words = "OUTSIDE")
    static void betweenWhat() {
        edge.range(edge::rich, "between(0, 1, what)", (x, n) -> x.between(0, 1, n), 0, 2, OUTSIDE);
    }

    @Sentence(promise = 9, words = "UNKNOWN: a, b, or they are the same; OUTSIDE")
    static void betweenUnknownAheadOfOutside() {
        edge.refuses(edge::rich, "between(4, 0, 3)", x -> x.between(4, 0, 3), UNKNOWN);
        edge.refuses(edge::rich, "between(0, 4, -1)", x -> x.between(0, 4, -1), UNKNOWN);
        edge.refuses(edge::rich, "between(1, 1, 3)", x -> x.between(1, 1, 3), UNKNOWN);
    }

    @Sentence(promise = 9, words = "0 what a OWES b, 1 how many WEEKS that is FREE still")
    static void betweenIsFromAToB() {
        ThanksOwed x = edge.town("1u90", 0, PERSON, PERSON);
        edge.owe(x, 0, 1, 7);
        edge.due("what a OWES b", x.between(0, 1, 0), 7);
        edge.due("what b OWES a", x.between(1, 0, 0), 0);
        edge.due("the most FREE weeks", x.between(0, 1, 1), 9);
        edge.due("FREE the other way", x.between(1, 0, 1), 0);
        edge.due("OFFENDED", x.between(0, 1, 2) + x.between(1, 0, 2), 0);
    }

    @Sentence(promise = 9, words = "2 how many WEEKS a is OFFENDED by b still")
    static void betweenTellsWhomIsOffended() {
        ThanksOwed x = edge.town("1u09", 0, PERSON, PERSON);
        x.favour(0, 1, 7, false);
        edge.due("a by b, the most weeks", x.between(0, 1, 2), 9);
        edge.due("b by a", x.between(1, 0, 2), 0);
        edge.due("nothing OWED", x.between(0, 1, 0) + x.between(1, 0, 0), 0);
        edge.due("nothing FREE", x.between(0, 1, 1) + x.between(1, 0, 1), 0);
    }

    // ---- 10 favour

    @Sentence(promise = 10, words = "OUTSIDE: size")
    static void sizes() {
        edge.range(edge::rich, "favour(0, 1, size, true)", (x, n) -> x.favour(0, 1, n, true), 1, 99, OUTSIDE);
        edge.range(edge::rich, "favour(0, 1, size, false)", (x, n) -> x.favour(0, 1, n, false), 1, 99, OUTSIDE);
    }

    @Sentence(promise = 10, words = "A FAVOUR of a size (1 to 99)")
    static void leastAndGreatestSizesAreOwed() {
        ThanksOwed x = edge.town("1u00", 0, PERSON, PERSON);
        edge.due("the least", x.favour(0, 1, 1, true), 1);
        edge.due("the greatest, more", x.favour(0, 1, 99, true), 100);
        edge.due("between(1, 0, 0)", x.between(1, 0, 0), 100);
    }

    @Sentence(promise = 10, words = "UNKNOWN: a, b")
    static void favourOfUnknownPeople() {
        edge.range(edge::rich, "favour(a, 1, 5, true)", (x, n) -> x.favour(n, 1, 5, true), 0, 3, UNKNOWN);
        edge.range(edge::rich, "favour(2, b, 5, false)", (x, n) -> x.favour(2, n, 5, false), 0, 3, UNKNOWN);
        edge.refuses(ThanksOwed::new, "favour(0, 1, 5, true)", x -> x.favour(0, 1, 5, true), UNKNOWN);
    }

    @Sentence(promise = 10, words = "or they are the same")
    static void favourForOneself() {
        for (int n = 0; n < 5; n++) {
            int same = n;
            edge.refuses(edge::full, "favour(n, n, 5, false) of " + n, x -> x.favour(same, same, 5, false), UNKNOWN);
        }
        edge.refuses(edge::full, "favour(1, 1, 5, true)", x -> x.favour(1, 1, 5, true), UNKNOWN);
    }

    private static ThanksOwed twoOffendedByZero() {
        ThanksOwed x = edge.rich();
        x.favour(2, 0, 5, false);
        return x;
    }

    @Sentence(promise = 10, words = "STATE: a is OFFENDED by b")
    static void favourOfOneOffended() {
        edge.refuses(EdgePeopleTest::twoOffendedByZero, "thanks", x -> x.favour(2, 0, 5, true), STATE);
        edge.refuses(EdgePeopleTest::twoOffendedByZero, "a grunt", x -> x.favour(2, 0, 5, false), STATE);
        edge.refuses(edge::rich, "a grunter's grunt", x -> x.favour(0, 3, 5, false), STATE);
    }

    @Sentence(promise = 10, words = "a is not OFFENDED by b")
    static void favourTheOtherWay() {
        edge.due("b's favour for a", twoOffendedByZero().favour(0, 2, 5, true), 17);
        edge.due("a's favour for another", twoOffendedByZero().favour(2, 1, 5, true), 14);
        edge.due("another's favour for b", twoOffendedByZero().favour(1, 0, 5, true), 35);
    }

    @Sentence(promise = 10, words = "or b THANKS, though he never does")
    static void neverThanks() {
        edge.refuses(edge::full, "a GRUNTER thanks", x -> x.favour(2, 3, 5, true), STATE);
        edge.refuses(edge::full, "a SAINT thanks", x -> x.favour(2, 4, 5, true), STATE);
    }

    @Sentence(promise = 10, words = "A GRUNTER, a SAINT never THANKS")
    static void allOthersThank() {
        int[] kinds = {PERSON, CHILD, WIDOW};
        for (int kind : kinds) {
            ThanksOwed x = edge.town("1u00", 0, GRUNTER, SAINT, kind);
            edge.due("kind " + kind + " thanks a GRUNTER", x.favour(0, 2, 5, true), 5);
            edge.due("kind " + kind + " thanks a SAINT", x.favour(1, 2, 5, true), 5);
        }
    }

    @Sentence(promise = 10, words = "If he GRUNTS, he OWES nothing for it")
    static void allGrunt() {
        for (int kind = PERSON; kind <= SAINT; kind++) {
            ThanksOwed x = edge.town("1u00", 0, PERSON, kind);
            edge.due("kind " + kind + " grunts", x.favour(0, 1, 99, false), 0);
            edge.due("count(8)", x.count(8), 0);
        }
    }

    @Sentence(promise = 10, words = "UNKNOWN: a, b, or they are the same; OUTSIDE: size")
    static void favourUnknownAheadOfOutside() {
        edge.refuses(edge::rich, "favour(4, 0, 0, true)", x -> x.favour(4, 0, 0, true), UNKNOWN);
        edge.refuses(edge::rich, "favour(0, -1, 100, true)", x -> x.favour(0, -1, 100, true), UNKNOWN);
        edge.refuses(edge::rich, "favour(1, 1, 0, false)", x -> x.favour(1, 1, 0, false), UNKNOWN);
    }

    @Sentence(promise = 10, words = "UNKNOWN: a, b, or they are the same; OUTSIDE: size; STATE")
    static void favourUnknownAheadOfState() {
        edge.refuses(edge::rich, "a grunter thanks himself", x -> x.favour(3, 3, 5, true), UNKNOWN);
        edge.refuses(edge::rich, "a grunter thanks nobody", x -> x.favour(4, 3, 5, true), UNKNOWN);
    }

    @Sentence(promise = 10, words = "OUTSIDE: size; STATE: a is OFFENDED by b")
    static void favourOutsideAheadOfState() {
        edge.refuses(edge::rich, "an offended one's of 0", x -> x.favour(0, 3, 0, false), OUTSIDE);
        edge.refuses(edge::rich, "an offended one's of 100", x -> x.favour(0, 3, 100, false), OUTSIDE);
        edge.refuses(edge::rich, "a grunter thanks for 0", x -> x.favour(2, 3, 0, true), OUTSIDE);
        edge.refuses(edge::rich, "a grunter thanks for 100", x -> x.favour(2, 3, 100, true), OUTSIDE);
    }

    private static ThanksOwed owing(String law, int sum) {
        ThanksOwed x = edge.town(law, 0, PERSON, PERSON);
        edge.owe(x, 1, 0, sum);
        return x;
    }

    @Sentence(promise = 10, words = "What one OWES another one is 0 to 9999 (what is above is lost)")
    static void greatestDebtByThanks() {
        edge.due("9900 and 99 more", owing("1u00", 9900).favour(0, 1, 99, true), 9999);
        edge.due("9901 and 99 more", owing("1u00", 9901).favour(0, 1, 99, true), 9999);
        ThanksOwed x = owing("1u00", 9999);
        edge.due("9999 and 1 more", x.favour(0, 1, 1, true), 9999);
        edge.due("between(1, 0, 0)", x.between(1, 0, 0), 9999);
        edge.due("count(8)", x.count(8), 9999);
    }

    @Sentence(promise = 10, words = "what he OWES a (also what he owed him before) does not grow for FREE WEEKS")
    static void thanksAtTheGreatestDebtMakeItFree() {
        ThanksOwed x = owing("1u00", 9999);
        edge.law(x, "1u40");
        edge.due("thanks", x.favour(0, 1, 99, true), 9999);
        edge.due("FREE", x.between(1, 0, 1), 4);
    }

    @Sentence(promise = 10, words = "also what he owed him before")
    static void thanksMakeOldDebtsFree() {
        ThanksOwed x = owing("1u00", 10);
        edge.due("it grows", x.week(), 1);
        edge.law(x, "1u20");
        edge.due("thanks", x.favour(0, 1, 1, true), 12);
        edge.due("the first FREE week", x.week(), 0);
        edge.due("the second", x.week(), 0);
        edge.due("no more", x.week(), 2);
    }

    @Sentence(promise = 10, words = "as many still, if that was more")
    static void moreFreeWeeksStay() {
        for (int free = 0; free <= 9; free++) {
            ThanksOwed x = owing("1u50", 10);
            x.week();
            edge.law(x, "1u" + free + "0");
            x.favour(0, 1, 1, true);
            edge.due("4 still, FREE " + free, x.between(1, 0, 1), free <= 4 ? 4 : free);
        }
    }

    @Sentence(promise = 10, words = "does not grow for FREE WEEKS from then on")
    static void thanksMakeFreeFromThenOn() {
        for (int free = 0; free <= 9; free++) {
            ThanksOwed x = edge.town("1u" + free + "0", 0, PERSON, PERSON, PERSON);
            edge.owe(x, 0, 1, 5);
            x.week();
            edge.owe(x, 0, 1, 5);
            edge.due("FREE " + free, x.between(0, 1, 1), free);
            edge.due("the other way", x.between(1, 0, 1), 0);
            edge.due("another pair", x.between(0, 2, 1) + x.between(2, 1, 1), 0);
        }
    }

    @Sentence(promise = 10, words = "If he GRUNTS, he OWES nothing for it")
    static void gruntLeavesDebtAndFree() {
        ThanksOwed x = owing("1u50", 10);
        x.week();
        edge.due("a grunt", x.favour(0, 1, 99, false), 10);
        edge.due("FREE as before", x.between(1, 0, 1), 4);
        edge.due("nothing FREE the other way", x.between(0, 1, 1), 0);
    }

    @Sentence(promise = 10, words = "a is OFFENDED by b for SULK WEEKS")
    static void offendedForSulkWeeks() {
        for (int sulk = 0; sulk <= 9; sulk++) {
            ThanksOwed x = edge.town("1u0" + sulk, 0, PERSON, PERSON);
            x.favour(0, 1, 5, false);
            edge.due("b by a", x.between(1, 0, 2), 0);
            for (int left = sulk; left > 0; left--) {
                edge.due("SULK " + sulk + ", OFFENDED still", x.between(0, 1, 2), left);
                edge.due("SULK " + sulk + ", a favour with " + left + " left", x.favour(0, 1, 5, true), STATE);
                x.week();
            }
            edge.due("SULK " + sulk + ", OFFENDED no more", x.between(0, 1, 2), 0);
            edge.due("SULK " + sulk + ", a favour", x.favour(0, 1, 5, true), 5);
        }
    }

    @Sentence(promise = 10, words = "but a SAINT never is")
    static void saintIsNeverOffended() {
        ThanksOwed x = edge.town("1u09", 0, SAINT, PERSON, GRUNTER);
        for (int n = 0; n < 3; n++) {
            edge.due("a grunt at a saint", x.favour(0, 1, 5, false), 0);
            edge.due("by b", x.between(0, 1, 2), 0);
            edge.due("a grunter's", x.favour(0, 2, 5, false), 0);
            edge.due("by a grunter", x.between(0, 2, 2), 0);
        }
        edge.due("thanks behind grunts", x.favour(0, 1, 5, true), 5);
    }

    @Sentence(promise = 10, words = "a is OFFENDED by b for SULK WEEKS")
    static void allOthersAreOffended() {
        int[] kinds = {PERSON, CHILD, WIDOW, GRUNTER};
        for (int kind : kinds) {
            ThanksOwed x = edge.town("1u02", 0, kind, PERSON, SAINT);
            x.favour(0, 1, 5, false);
            edge.due("kind " + kind + " by a person", x.between(0, 1, 2), 2);
            x.favour(0, 2, 5, false);
            edge.due("kind " + kind + " by a saint", x.between(0, 2, 2), 2);
        }
    }
}
