/** Counts the answers that are not as due, and ends the test with exit code 1 if there was one. */
final class Check {
    private int asked;
    private int wrong;

    void due(String call, long got, long want) {
        asked++;
        if (got != want) {
            wrong++;
            System.out.println(call + " answered " + got + ", due is " + want);
        }
    }

    /** The call was refused, and nothing that digest() tells has changed. */
    void refused(String call, ThanksOwed x, long before, long got, long want) {
        due(call, got, want);
        due("digest() behind refused " + call, x.digest(), before);
    }

    /** A page of these letters is read as the law. */
    void law(ThanksOwed x, String text) {
        write(x, text);
        int read = x.count(10);
        due("law() of " + text, x.law(), read + 1);
    }

    void write(ThanksOwed x, String text) {
        x.blank();
        for (int i = 0; i < text.length(); i++) {
            due("letter(" + text.charAt(i) + ")", x.letter(text.charAt(i)), i + 1);
        }
    }

    /** An object with this law and with people of these kinds, each of this wealth. */
    ThanksOwed town(String law, int wealth, int... kinds) {
        ThanksOwed x = new ThanksOwed();
        law(x, law);
        for (int i = 0; i < kinds.length; i++) {
            due("person(" + kinds[i] + ", " + wealth + ")", x.person(kinds[i], wealth), i);
        }
        return x;
    }

    /** The first comes to owe the second so much, by as many favours as it takes. */
    void owe(ThanksOwed x, int debtor, int creditor, int sum) {
        int owed = x.between(debtor, creditor, 0);
        for (int left = sum; left > 0; left -= 99) {
            int size = Math.min(99, left);
            owed += size;
            due("favour(" + creditor + ", " + debtor + ", " + size + ", true)", x.favour(creditor, debtor, size, true), owed);
        }
    }

    void end() {
        System.out.println(asked + " answers, " + wrong + " not as due");
        if (wrong != 0) {
            System.exit(1);
        }
    }
}
