import java.lang.reflect.Field;
import java.lang.reflect.InvocationTargetException;
import java.lang.reflect.Method;
import java.util.ArrayList;
import java.util.Arrays;
import java.util.Comparator;
import java.util.List;

/** Runs the tests of single sentences of the document; what fails is told with its promise and its words. */
final class Edge {
    /** Makes a new object by calls that are the same each time. */
    interface Making {
        ThanksOwed make();
    }

    interface Call {
        long on(ThanksOwed x);
    }

    interface NumberCall {
        long on(ThanksOwed x, int number);
    }

    private static final int PERSON = 0, CHILD = 1, WIDOW = 2, GRUNTER = 3, SAINT = 4;

    private final Check check = new Check();
    private String sentence = "";

    /** Runs all tests of a class, so that none is left out for not being named in a list. */
    void run(Class<?> tests) {
        Method[] methods = tests.getDeclaredMethods();
        Arrays.sort(methods, Comparator.comparing(Method::getName));
        int run = 0;
        for (Method method : methods) {
            Sentence told = method.getAnnotation(Sentence.class);
            if (told != null) {
                run++;
                sentence = "promise " + told.promise() + ", \"" + told.words() + "\", " + method.getName() + ": ";
                invoke(method);
            }
        }
        sentence = "";
        due(tests.getName() + " has sentences", run > 0 ? 1 : 0, 1);
        System.out.print(run + " sentences, ");
        check.end();
    }

    private void invoke(Method test) {
        try {
            test.invoke(null);
        } catch (InvocationTargetException e) {
            due("a throw of " + e.getCause(), 1, 0);
        } catch (IllegalAccessException e) {
            throw new IllegalStateException(e);
        }
    }

    void due(String call, long got, long want) {
        check.due(sentence + call, got, want);
    }

    void isNot(String call, long got, long refusal) {
        due(call + " is not " + refusal, got == refusal ? 1 : 0, 0);
    }

    /** It is refused, and behind it all calls show what they show of an object that it was not asked of. */
    void refuses(Making making, String told, Call call, int refusal) {
        ThanksOwed asked = making.make();
        due(told, call.on(asked), refusal);
        same("behind refused " + told, asked, making.make());
    }

    /** It is answered, and behind it all calls show what they show of an object that it was not asked of. */
    void changesNothing(Making making, String told, Call call) {
        ThanksOwed asked = making.make();
        call.on(asked);
        same("behind " + told, asked, making.make());
    }

    /** The last numbers inside are not refused; the first outside are, and so are the least and the greatest int. */
    void range(Making making, String told, NumberCall call, int least, int most, int refusal) {
        isNot(told + " of " + least, call.on(making.make(), least), refusal);
        isNot(told + " of " + most, call.on(making.make(), most), refusal);
        outside(making, told, call, least - 1, refusal);
        outside(making, told, call, Integer.MIN_VALUE, refusal);
        if (most < Integer.MAX_VALUE) {
            outside(making, told, call, most + 1, refusal);
            outside(making, told, call, Integer.MAX_VALUE, refusal);
        }
    }

    private void outside(Making making, String told, NumberCall call, int number, int refusal) {
        refuses(making, told + " of " + number, x -> call.on(x, number), refusal);
    }

    /** All calls show the same of both; both are used up by it, as restore() and others are asked of them. */
    void same(String told, ThanksOwed one, ThanksOwed other) {
        List<String> ofOne = shown(one);
        List<String> ofOther = shown(other);
        int unlike = 0;
        while (unlike < ofOne.size() && unlike < ofOther.size() && ofOne.get(unlike).equals(ofOther.get(unlike))) {
            unlike++;
        }
        String first = unlike < ofOne.size() ? ofOne.get(unlike) : "";
        due(told + " all is the same, first unlike: " + first, unlike, ofOther.size());
    }

    private static List<String> shown(ThanksOwed x) {
        List<String> lines = new ArrayList<>();
        showAll("now", lines, x);
        fillUp("now", lines, x);
        lines.add("restore(): " + x.restore());
        showAll("restored", lines, x);
        fillUp("restored", lines, x);
        lines.add("law(): " + x.law());
        return lines;
    }

    /** With five people, something wrong between two who had not come yet is shown, too. */
    private static void fillUp(String when, List<String> lines, ThanksOwed x) {
        for (int people = x.count(4); people < 5; people++) {
            lines.add("person(0, 3) " + when + ": " + x.person(PERSON, 3));
        }
        showAll(when + " with five", lines, x);
    }

    private static void showAll(String when, List<String> lines, ThanksOwed x) {
        lines.add("digest() " + when + ": " + x.digest());
        lines.add("fault() " + when + ": " + x.fault());
        for (int person = 0; person < x.count(4); person++) {
            for (int need = 1; need <= 61; need += 20) {
                lines.add("accept(" + person + ", " + need + ", 0, 0) " + when + ": " + x.accept(person, need, 0, 0));
                lines.add("accept(" + person + ", " + need + ", 6, 1) " + when + ": " + x.accept(person, need, 6, 1));
            }
        }
        // Nobody's years are refused: asked here, they would change both objects alike if they changed any.
        if (x.count(4) > 0) {
            lines.add("years(9, 5, 0) " + when + ": " + x.years(9, 5, 0));
            lines.add("years(9, 5, 2) " + when + ": " + x.years(9, 5, 2));
        }
        lines.add("grown(9999, 12, 0, 2, 0) " + when + ": " + x.grown(9999, 12, 0, 2, 0));
    }

    void write(ThanksOwed x, String text) {
        check.write(x, text);
    }

    void law(ThanksOwed x, String text) {
        check.law(x, text);
    }

    void owe(ThanksOwed x, int debtor, int creditor, int sum) {
        check.owe(x, debtor, creditor, sum);
    }

    void weeks(ThanksOwed x, int weeks) {
        for (int n = 0; n < weeks; n++) {
            x.week();
        }
    }

    /** An object with this law and with people of these kinds, each of this wealth. */
    ThanksOwed town(String law, int wealth, int... kinds) {
        return check.town(law, wealth, kinds);
    }

    /**
     * Something of all there is: four people, debts in rings, FREE and OFFENDED weeks (0 by 3, 1 by 3), three offers,
     * two letters, and an image that is not what is now. A fifth person, a fourth offer, a third letter find room.
     */
    ThanksOwed rich() {
        ThanksOwed x = new ThanksOwed();
        law(x, "2u34");
        int[] wealth = {40, 30, 20, 10};
        int[] kinds = {PERSON, WIDOW, CHILD, GRUNTER};
        for (int person = 0; person < kinds.length; person++) {
            x.person(kinds[person], wealth[person]);
        }
        x.favour(1, 0, 30, true);
        x.favour(0, 2, 12, true);
        x.favour(2, 1, 9, true);
        x.favour(0, 1, 20, true);
        x.favour(0, 3, 5, false);
        x.offer(1, 0, 7);
        x.image();
        x.week();
        x.favour(2, 0, 15, true);
        x.favour(1, 3, 5, false);
        x.offer(2, 0, 8);
        x.offer(0, 1, 9);
        write(x, "7d");
        return x;
    }

    /** As much as there can be with nobody: a law, weeks, letters, and an image that is not what is now. */
    ThanksOwed nobody() {
        ThanksOwed x = new ThanksOwed();
        law(x, "3d12");
        x.week();
        x.image();
        law(x, "4u21");
        x.week();
        write(x, "9d0");
        return x;
    }

    /** The rich one with a fifth person, a SAINT, with six offers and six letters: no room for more of any. */
    ThanksOwed full() {
        ThanksOwed x = rich();
        x.person(SAINT, 99);
        x.offer(4, 0, 50);
        x.offer(3, 2, 9);
        x.offer(2, 3, 8);
        write(x, "1u0000");
        return x;
    }

    /**
     * Sets WEALTH behind the back of the calls. Five people bring 495 at most, so no run of calls comes near 999, and
     * the sentences about more than 999 can be broken for nobody but one who was made rich like this.
     */
    void enrich(ThanksOwed x, int person, int wealth) {
        try {
            Field townField = ThanksOwed.class.getDeclaredField("town");
            townField.setAccessible(true);
            Object town = townField.get(x);
            Field wealthField = town.getClass().getDeclaredField("wealth");
            wealthField.setAccessible(true);
            ((int[]) wealthField.get(town))[person] = wealth;
        } catch (ReflectiveOperationException e) {
            throw new IllegalStateException(e);
        }
        due("about(" + person + ", 1)", x.about(person, 1), wealth);
    }
}
