import java.lang.reflect.Method;
import java.util.Arrays;
import java.util.HashMap;
import java.util.Map;
import java.util.Random;

/** Long runs of drawn calls, most of them lawful, each answered alike by the class and by the model. */
public final class AgreementTest {
    private static final int RUNS = 400;
    /** With a digest() behind every 64th these are 511; an object is promised for 512. */
    private static final int CALLS = 504;
    private static final String[] NAMES = {
        "letter", "blank", "fault", "law", "person", "about", "as", "between", "favour", "week", "pay", "setOff", "ring",
        "forgive", "bankrupt", "ruin", "settling", "bestRing", "offer", "forget", "accept", "grown", "years", "image",
        "restore", "count", "digest"};
    /** How often each call is drawn, in the order of NAMES. */
    private static final int[] OFTEN = {
        8, 1, 2, 3, 6, 4, 2, 4, 30, 6, 6, 2, 2, 2, 2, 3, 3, 4, 7, 1, 6, 2, 3, 1, 1, 3, 3};
    private static final int[] RING_WHATS = {0, 1, 10, 11, 12, 13};
    private static final Check check = new Check();
    private static final Map<String, Method> ofClass = methodsOf(ThanksOwed.class);
    private static final Map<String, Method> ofModel = methodsOf(Model.class);

    private final Random random;
    private final int run;
    private final ThanksOwed x = new ThanksOwed();
    private final Model model = new Model();

    private AgreementTest(int run) {
        this.run = run;
        random = new Random(run);
    }

    public static void main(String[] args) throws ReflectiveOperationException {
        for (int run = 0; run < RUNS; run++) {
            AgreementTest test = new AgreementTest(run);
            for (int call = 0; call < CALLS; call++) {
                test.step(call);
            }
        }
        check.end();
    }

    private static Map<String, Method> methodsOf(Class<?> owner) {
        Map<String, Method> methods = new HashMap<>();
        for (Method method : owner.getDeclaredMethods()) {
            if (Arrays.asList(NAMES).contains(method.getName())) {
                methods.put(method.getName(), method);
            }
        }
        return methods;
    }

    private void step(int call) throws ReflectiveOperationException {
        String name = random.nextInt(20) == 0 ? NAMES[random.nextInt(NAMES.length)] : drawName();
        Object[] values = draw(name);
        long got = ((Number) ofClass.get(name).invoke(x, values)).longValue();
        long want = ((Number) ofModel.get(name).invoke(model, values)).longValue();
        String told = "run " + run + ", call " + call + ": " + name + Arrays.toString(values);
        check.due(told, got, want);
        if (call % 64 == 63) {
            check.due(told + ", then digest()", x.digest(), model.digest());
        }
    }

    private String drawName() {
        int left = random.nextInt(Arrays.stream(OFTEN).sum());
        int which = 0;
        while (left >= OFTEN[which]) {
            left -= OFTEN[which];
            which++;
        }
        return NAMES[which];
    }

    /** A number of these mostly, an edge of them or one just beyond at times, any number seldom. */
    private int some(int least, int most) {
        return switch (random.nextInt(60)) {
            case 0 -> least - 1;
            case 1 -> most + 1;
            case 2 -> random.nextInt();
            case 3 -> least;
            case 4 -> most;
            default -> least + random.nextInt(most - least + 1);
        };
    }

    /** Small numbers as often as any, so that like sums come about. */
    private int someSmall(int least, int small, int most) {
        return some(least, random.nextBoolean() ? small : most);
    }

    private int somebody() {
        return some(0, Math.max(0, model.count(4) - 1));
    }

    /** The letter that a law has at this place, mostly. */
    private int lawLetter() {
        if (random.nextInt(25) == 0) {
            return some(32, 126);
        }
        return model.count(9) == 1 ? "ud".charAt(random.nextInt(2)) : '0' + random.nextInt(10);
    }

    private Object[] draw(String name) {
        return switch (name) {
            case "letter" -> values(lawLetter());
            case "person" -> values(some(0, 4), some(0, 99));
            case "about" -> values(somebody(), some(0, 5));
            case "as" -> values(somebody(), some(0, 4));
            case "between" -> values(somebody(), somebody(), some(0, 2));
            case "favour" -> values(somebody(), somebody(), someSmall(1, 6, 99), random.nextInt(4) != 0);
            case "pay" -> values(somebody(), somebody(), someSmall(1, 9, 999));
            case "setOff", "forgive" -> values(somebody(), somebody());
            case "ring" -> values(somebody(), somebody(), somebody());
            case "bankrupt", "ruin" -> values(somebody());
            case "bestRing" -> values(random.nextInt(10) == 0 ? some(0, 13) : RING_WHATS[random.nextInt(6)]);
            case "offer" -> values(somebody(), somebody(), someSmall(1, 4, 99));
            case "accept" -> values(somebody(), someSmall(1, 40, 500), some(0, 20), some(0, 1));
            case "grown" -> values(random.nextInt(3) == 0 ? 9999 : someSmall(0, 300, 9999), someSmall(0, 5, 40), some(0, 4), some(0, 4), some(0, 1));
            case "years" -> values(some(1, 60), some(0, Integer.MAX_VALUE - 1), some(0, 2));
            case "count" -> values(some(0, 10));
            default -> values();
        };
    }

    private static Object[] values(Object... drawn) {
        return drawn;
    }
}
