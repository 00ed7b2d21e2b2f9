/** Promises 1 to 5: a new object, letter, blank, fault, law. */
public final class LawTest {
    private static final Check check = new Check();

    public static void main(String[] args) {
        promise1NewObject();
        promise2Letter();
        promise3Blank();
        promise4Fault();
        promise5Law();
        check.end();
    }

    private static void promise1NewObject() {
        ThanksOwed x = new ThanksOwed();
        int[] due = {1, 1, 0, 0, 0, 0, 0, 0, 0, 0, 0};
        for (int what = 0; what < due.length; what++) {
            check.due("new: count(" + what + ")", x.count(what), due[what]);
        }
        check.due("new: about(0, 0)", x.about(0, 0), ThanksOwed.UNKNOWN);
        check.due("new: restore()", x.restore(), ThanksOwed.STATE);
        check.due("new: fault()", x.fault(), 0);
    }

    private static void promise2Letter() {
        ThanksOwed x = new ThanksOwed();
        check.due("letter(31)", x.letter(31), ThanksOwed.OUTSIDE);
        check.due("letter(127)", x.letter(127), ThanksOwed.OUTSIDE);
        check.due("letter(min)", x.letter(Integer.MIN_VALUE), ThanksOwed.OUTSIDE);
        check.due("letter(max)", x.letter(Integer.MAX_VALUE), ThanksOwed.OUTSIDE);
        check.due("letter(32)", x.letter(32), 1);
        check.due("letter(126)", x.letter(126), 2);
        for (int n = 3; n <= 6; n++) {
            check.due("letter(65)", x.letter(65), n);
        }
        long before = x.digest();
        check.refused("the seventh letter", x, before, x.letter(65), ThanksOwed.FULL);
        check.refused("the seventh letter, outside", x, before, x.letter(31), ThanksOwed.OUTSIDE);
        check.due("count(9)", x.count(9), 6);
    }

    private static void promise3Blank() {
        ThanksOwed x = new ThanksOwed();
        check.due("blank() of an empty page", x.blank(), 0);
        check.write(x, "2d");
        check.due("blank()", x.blank(), 2);
        check.due("blank() again", x.blank(), 0);
        check.due("count(9)", x.count(9), 0);
        check.due("letter behind blank()", x.letter('7'), 1);
        check.due("fault() sees the new letter alone", x.fault(), 1);
    }

    private static void fault(String text, int due) {
        ThanksOwed x = new ThanksOwed();
        check.write(x, text);
        check.due("fault() of '" + text + "'", x.fault(), due);
        check.due("the page is as it was", x.count(9), text.length());
    }

    private static void promise4Fault() {
        fault("0", 1);
        fault("9", 1);
        fault("/", 0);
        fault(":", 0);
        fault("u", 0);
        fault("x1", 0);
        fault("1u", 2);
        fault("1d", 2);
        fault("1U", 1);
        fault("1t", 1);
        fault("1v", 1);
        fault("11", 1);
        fault("1c", 1);
        fault("1e", 1);
        fault("1ud", 2);
        fault("1u9", 3);
        fault("1u/", 2);
        fault("1u:", 2);
        fault("1u0 ", 3);
        fault("1u0:", 3);
        fault("1u09", 4);
        fault("1u000", 4);
        fault("1u0000", 4);
        fault("1x000x", 1);
    }

    private static void noLaw(String text) {
        ThanksOwed x = new ThanksOwed();
        check.write(x, text);
        long before = x.digest();
        check.refused("law() of '" + text + "'", x, before, x.law(), ThanksOwed.STATE);
    }

    private static void promise5Law() {
        noLaw("");
        noLaw("1u0");
        noLaw("1u000");
        noLaw("1x00");
        noLaw("u100");
        ThanksOwed x = new ThanksOwed();
        String[] laws = {"9d87", "0u09", "4u10", "0d00"};
        for (int i = 0; i < laws.length; i++) {
            check.write(x, laws[i]);
            check.due("law()", x.law(), i + 1);
            check.due("the page is empty", x.count(9), 0);
            check.due("RATE", x.count(0), laws[i].charAt(0) - '0');
            check.due("rounded up", x.count(1), laws[i].charAt(1) == 'u' ? 1 : 0);
            check.due("FREE", x.count(2), laws[i].charAt(2) - '0');
            check.due("SULK", x.count(3), laws[i].charAt(3) - '0');
            check.due("laws read", x.count(10), i + 1);
            check.due("law() of the empty page", x.law(), ThanksOwed.STATE);
        }
    }
}
