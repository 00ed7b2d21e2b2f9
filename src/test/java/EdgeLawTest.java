/** Promises 1 to 5 sentence by sentence: the new object, the empty and the full page, each place of a law, refusals. */
public final class EdgeLawTest {
    private static final int UNKNOWN = ThanksOwed.UNKNOWN, OUTSIDE = ThanksOwed.OUTSIDE, STATE = ThanksOwed.STATE;
    private static final int FULL = ThanksOwed.FULL;
    private static final Edge edge = new Edge();

    public static void main(String[] args) {
        edge.run(EdgeLawTest.class);
    }

    private static ThanksOwed withPage(String text) {
        ThanksOwed x = edge.rich();
        edge.write(x, text);
        return x;
    }

    // ---- 1 a new object

    @Sentence(promise = 1, words = "THE LAW \"1u00\"")
    static void newLaw() {
        int[] law = {1, 1, 0, 0};
        for (int what = 0; what < law.length; what++) {
            edge.due("count(" + what + ")", new ThanksOwed().count(what), law[what]);
        }
    }

    @Sentence(promise = 1, words = "At first it is \"1u00\"")
    static void newLawIsKeptTo() {
        ThanksOwed x = new ThanksOwed();
        x.person(0, 0);
        x.person(0, 0);
        edge.due("favour(0, 1, 11, true)", x.favour(0, 1, 11, true), 11);
        edge.due("nothing is FREE", x.between(1, 0, 1), 0);
        edge.due("1 tenth of 11, rounded up", x.week(), 2);
        edge.due("a grunt", x.favour(0, 1, 1, false), 13);
        edge.due("nobody is OFFENDED", x.between(0, 1, 2), 0);
    }

    @Sentence(promise = 1, words = "nobody")
    static void newPeople() {
        ThanksOwed x = new ThanksOwed();
        edge.due("count(4)", x.count(4), 0);
        edge.due("about(0, 0)", x.about(0, 0), UNKNOWN);
        edge.due("the first one", x.person(0, 0), 0);
    }

    @Sentence(promise = 1, words = "nobody")
    static void newObjectHasNothing() {
        ThanksOwed x = new ThanksOwed();
        for (int what = 5; what <= 10; what++) {
            edge.due("count(" + what + ")", x.count(what), 0);
        }
        edge.due("restore()", x.restore(), STATE);
    }

    @Sentence(promise = 1, words = "A new object")
    static void objectsAreApart() {
        edge.full();
        ThanksOwed x = new ThanksOwed();
        edge.full();
        edge.same("beside others", x, new ThanksOwed());
    }

    // ---- 2 letter

    @Sentence(promise = 2, words = "OUTSIDE: code (32 to 126)")
    static void codes() {
        edge.range(edge::rich, "letter()", (x, n) -> x.letter(n), 32, 126, OUTSIDE);
    }

    @Sentence(promise = 2, words = "OUTSIDE: code (32 to 126)")
    static void codesInside() {
        for (int code = 32; code <= 126; code++) {
            edge.due("letter(" + code + ")", new ThanksOwed().letter(code), 1);
        }
    }

    @Sentence(promise = 2, words = "how many THE PAGE has")
    static void lettersFromTheFirstToTheSixth() {
        ThanksOwed x = new ThanksOwed();
        for (int n = 1; n <= 6; n++) {
            edge.due("letter(32)", x.letter(32), n);
            edge.due("count(9)", x.count(9), n);
        }
    }

    @Sentence(promise = 2, words = "A letter comes behind THE PAGE")
    static void letterComesBehind() {
        ThanksOwed x = new ThanksOwed();
        x.letter('5');
        edge.due("the letter ahead is in its place", x.fault(), 1);
        x.letter('u');
        edge.due("so is the one behind it", x.fault(), 2);
    }

    @Sentence(promise = 2, words = "FULL: above 6")
    static void seventhLetter() {
        edge.refuses(edge::full, "letter(48)", x -> x.letter(48), FULL);
    }

    @Sentence(promise = 2, words = "FULL: above 6")
    static void sixthLetter() {
        ThanksOwed x = withPage("12345");
        edge.due("letter(48)", x.letter(48), 6);
    }

    @Sentence(promise = 2, words = "FULL: above 6")
    static void fullNoMore() {
        ThanksOwed x = edge.full();
        edge.due("blank()", x.blank(), 6);
        edge.due("letter(48)", x.letter(48), 1);
        ThanksOwed y = new ThanksOwed();
        edge.law(y, "1u00");
        for (int n = 1; n <= 6; n++) {
            edge.due("letter(48) behind law()", y.letter(48), n);
        }
    }

    @Sentence(promise = 2, words = "OUTSIDE: code (32 to 126); FULL: above 6")
    static void outsideAheadOfFull() {
        int[] codes = {31, 127, Integer.MIN_VALUE, Integer.MAX_VALUE};
        for (int code : codes) {
            edge.refuses(edge::full, "letter(" + code + ")", x -> x.letter(code), OUTSIDE);
        }
    }

    // ---- 3 blank

    @Sentence(promise = 3, words = "how many letters it had")
    static void blankOfAnEmptyPage() {
        edge.due("blank()", new ThanksOwed().blank(), 0);
        edge.changesNothing(() -> withPage(""), "blank()", x -> x.blank());
    }

    @Sentence(promise = 3, words = "how many letters it had")
    static void blankFromOneToSixLetters() {
        for (int n = 1; n <= 6; n++) {
            edge.due("blank() of " + n, withPage("1u0000".substring(0, n)).blank(), n);
        }
    }

    @Sentence(promise = 3, words = "THE PAGE is empty")
    static void blankLeavesAnEmptyPage() {
        ThanksOwed x = withPage("1u00");
        x.blank();
        edge.due("count(9)", x.count(9), 0);
        edge.due("fault()", x.fault(), 0);
        edge.due("law()", x.law(), STATE);
        edge.due("blank()", x.blank(), 0);
    }

    @Sentence(promise = 3, words = "THE PAGE is empty")
    static void blankChangesNothingElse() {
        ThanksOwed x = withPage("4d77");
        x.blank();
        edge.same("behind blank()", x, withPage(""));
    }

    // ---- 4 fault

    private static void faultOf(String text, int due) {
        edge.due("fault() of '" + text + "'", withPage(text).fault(), due);
    }

    private static void digitsAt(String ahead) {
        int place = ahead.length();
        for (char digit = '0'; digit <= '9'; digit++) {
            faultOf(ahead + digit, place + 1);
        }
        char[] others = {'/', ':', ' ', '~', 'u', 'd'};
        for (char other : others) {
            faultOf(ahead + other, place);
        }
    }

    @Sentence(promise = 4, words = "how many letters it has, if there is none")
    static void faultOfAnEmptyPage() {
        faultOf("", 0);
    }

    @Sentence(promise = 4, words = "a digit RATE (0 to 9")
    static void faultAtTheRate() {
        digitsAt("");
    }

    @Sentence(promise = 4, words = "a letter for what is broken (\"u\" rounded up, \"d\" rounded down)")
    static void faultAtTheLetter() {
        faultOf("1u", 2);
        faultOf("1d", 2);
        for (char code = 32; code <= 126; code++) {
            if (code != 'u' && code != 'd') {
                faultOf("1" + code, 1);
            }
        }
    }

    @Sentence(promise = 4, words = "a digit FREE (0 to 9")
    static void faultAtFree() {
        digitsAt("1u");
        digitsAt("1d");
    }

    @Sentence(promise = 4, words = "a digit SULK (0 to 9")
    static void faultAtSulk() {
        digitsAt("1u0");
    }

    @Sentence(promise = 4, words = "that no LAW has there")
    static void faultBehindALaw() {
        faultOf("1u00", 4);
        faultOf("1u000", 4);
        faultOf("1u00u", 4);
        faultOf("1u0000", 4);
    }

    @Sentence(promise = 4, words = "the first letter of THE PAGE that no LAW has there, behind those ahead of it")
    static void firstOfSeveralFaults() {
        faultOf("xxxx", 0);
        faultOf("x", 0);
        faultOf("xu00", 0);
        faultOf("1xx", 1);
        faultOf("1uxx", 2);
        faultOf("1u0xx", 3);
        faultOf("xu0000", 0);
        faultOf("11u00", 1);
    }

    @Sentence(promise = 4, words = "The place (from 0) of the first letter of THE PAGE")
    static void faultChangesNothing() {
        String[] pages = {"", "1u00", "1x", "1u0000"};
        for (String page : pages) {
            edge.changesNothing(() -> withPage(page), "fault() of " + page, x -> x.fault());
        }
    }

    // ---- 5 law

    private static void noLaw(String text) {
        edge.refuses(() -> withPage(text), "law() of '" + text + "'", x -> x.law(), STATE);
    }

    @Sentence(promise = 5, words = "STATE: it is none")
    static void emptyPageIsNoLaw() {
        edge.due("law()", new ThanksOwed().law(), STATE);
        noLaw("");
    }

    @Sentence(promise = 5, words = "STATE: it is none")
    static void tooShortIsNoLaw() {
        noLaw("1");
        noLaw("1u");
        noLaw("1u0");
    }

    @Sentence(promise = 5, words = "STATE: it is none")
    static void tooLongIsNoLaw() {
        noLaw("1u000");
        noLaw("1u0000");
        noLaw("11u00");
    }

    @Sentence(promise = 5, words = "STATE: it is none")
    static void wrongLetterIsNoLaw() {
        String[] pages = {
            "/u00", ":u00", "uu00", "1t00", "1v00", "1c00", "1e00", "1U00", "1D00", "1100", "1u/0", "1u:0", "1uu0", "1u0/",
            "1u0:", "1u0d", " u00", "1u0 "};
        for (String page : pages) {
            noLaw(page);
        }
    }

    private static void isLaw(String text) {
        ThanksOwed x = withPage(text);
        edge.due("law() of " + text, x.law(), 2);
        edge.due("RATE of " + text, x.count(0), text.charAt(0) - '0');
        edge.due("rounded up by " + text, x.count(1), text.charAt(1) == 'u' ? 1 : 0);
        edge.due("FREE of " + text, x.count(2), text.charAt(2) - '0');
        edge.due("SULK of " + text, x.count(3), text.charAt(3) - '0');
    }

    @Sentence(promise = 5, words = "a digit RATE (0 to 9")
    static void everyRate() {
        for (char digit = '0'; digit <= '9'; digit++) {
            isLaw(digit + "u12");
        }
    }

    @Sentence(promise = 5, words = "a letter for what is broken (\"u\" rounded up, \"d\" rounded down)")
    static void bothLetters() {
        isLaw("3u12");
        isLaw("3d12");
    }

    @Sentence(promise = 5, words = "a digit FREE (0 to 9")
    static void everyFree() {
        for (char digit = '0'; digit <= '9'; digit++) {
            isLaw("3d" + digit + "2");
        }
    }

    @Sentence(promise = 5, words = "a digit SULK (0 to 9")
    static void everySulk() {
        for (char digit = '0'; digit <= '9'; digit++) {
            isLaw("3d1" + digit);
        }
    }

    @Sentence(promise = 5, words = "how often one was read")
    static void onlyLawsAreCounted() {
        ThanksOwed x = new ThanksOwed();
        edge.due("law() of none", x.law(), STATE);
        edge.write(x, "1u00");
        edge.due("the first", x.law(), 1);
        edge.write(x, "1x00");
        edge.due("law() of none", x.law(), STATE);
        edge.write(x, "1u00");
        edge.due("the same once more is the second", x.law(), 2);
        edge.due("count(10)", x.count(10), 2);
    }

    @Sentence(promise = 5, words = "how often one was read")
    static void asManyLawsAsAnObjectCanRead() {
        ThanksOwed x = new ThanksOwed();
        for (int n = 1; n <= 102; n++) {
            int[] codes = {'9', 'd', '9', '9'};
            for (int code : codes) {
                x.letter(code);
            }
            edge.due("law()", x.law(), n);
        }
    }

    @Sentence(promise = 5, words = "THE PAGE is empty then")
    static void lawEmptiesThePage() {
        ThanksOwed x = withPage("4d56");
        edge.due("law()", x.law(), 2);
        edge.due("count(9)", x.count(9), 0);
        edge.due("fault()", x.fault(), 0);
        edge.due("law() again", x.law(), STATE);
        edge.due("letter(48)", x.letter(48), 1);
    }

    @Sentence(promise = 5, words = "THE PAGE is read as THE LAW")
    static void lawLeavesWhatIsFreeAndOffended() {
        ThanksOwed x = edge.town("1u99", 0, 0, 0);
        edge.owe(x, 0, 1, 10);
        x.favour(0, 1, 1, false);
        edge.law(x, "1u00");
        edge.due("FREE as before", x.between(0, 1, 1), 9);
        edge.due("OFFENDED as before", x.between(0, 1, 2), 9);
        edge.due("OWED as before", x.between(0, 1, 0), 10);
    }
}
