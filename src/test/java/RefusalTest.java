import java.lang.reflect.Method;
import java.util.ArrayList;
import java.util.Arrays;
import java.util.List;

/**
 * "Refusals, of several the first as told by each call .. they change nothing": every call that can be refused, with
 * all combinations of the numbers at its edges, so that refusals come alone, by two and by more. The answers that are
 * due are the model's; the refused calls of one kind are then asked of one object, of which all must show the same.
 */
public final class RefusalTest {
    private static final int MIN = Integer.MIN_VALUE, MAX = Integer.MAX_VALUE;
    /** An object is promised for 512 calls: the making and the comparing need some of them. */
    private static final int MOST_ASKED = 200;
    private static final Edge edge = new Edge();

    private static final Object[][] RICH = {
        {"letter", '2'}, {"letter", 'u'}, {"letter", '3'}, {"letter", '4'}, {"law"},
        {"person", 0, 40}, {"person", 2, 30}, {"person", 1, 20}, {"person", 3, 10},
        {"favour", 1, 0, 30, true}, {"favour", 0, 2, 12, true}, {"favour", 2, 1, 9, true}, {"favour", 0, 1, 20, true},
        {"favour", 0, 3, 5, false}, {"offer", 1, 0, 7}, {"week"},
        {"favour", 2, 0, 15, true}, {"favour", 2, 3, 5, false}, {"offer", 2, 0, 8}, {"offer", 0, 1, 9},
        {"letter", '7'}, {"letter", 'x'}};
    private static final Object[][] IMAGE = {
        {"image"}, {"week"}, {"pay", 0, 1, 3}, {"favour", 1, 2, 15, true}, {"forget"}, {"offer", 0, 1, 4},
        {"offer", 2, 1, 9}, {"offer", 1, 0, 3}};
    private static final Object[][] FULL = {
        {"person", 4, 99}, {"offer", 4, 0, 50}, {"offer", 3, 2, 9}, {"offer", 2, 3, 8}, {"letter", '0'}, {"letter", '0'},
        {"letter", '0'}, {"letter", '0'}};
    private static final Object[][] NOBODY = {
        {"letter", '3'}, {"letter", 'd'}, {"letter", '1'}, {"letter", '2'}, {"law"}, {"week"}, {"image"}, {"week"},
        {"letter", '9'}, {"letter", 'd'}, {"letter", '0'}};
    private static final Object[][][] STATES = {
        {}, NOBODY, RICH, join(RICH, FULL), join(RICH, IMAGE), join(join(RICH, IMAGE), FULL)};

    private static final int[] PEOPLE = {MIN, -1, 0, 1, 2, 3, 4, 5, MAX};
    private static final int[] SIZES = {MIN, 0, 1, 99, 100, MAX};
    private static final int[] KINDS = {MIN, -1, 0, 4, 5, MAX};
    private static final int[] NO_AND_YES = {0, 1};

    public static void main(String[] args) {
        edge.run(RefusalTest.class);
    }

    private static Object[][] join(Object[][] first, Object[][] second) {
        Object[][] all = Arrays.copyOf(first, first.length + second.length);
        System.arraycopy(second, 0, all, first.length, second.length);
        return all;
    }

    private static long ask(Object asked, String name, Object... arguments) {
        for (Method method : asked.getClass().getDeclaredMethods()) {
            if (method.getName().equals(name)) {
                try {
                    return ((Number) method.invoke(asked, arguments)).longValue();
                } catch (ReflectiveOperationException e) {
                    throw new IllegalStateException(name + Arrays.toString(arguments), e);
                }
            }
        }
        throw new IllegalStateException("no call " + name);
    }

    private static <T> T made(T fresh, Object[][] calls) {
        for (Object[] call : calls) {
            Object[] arguments = Arrays.copyOfRange(call, 1, call.length);
            for (int n = 0; n < arguments.length; n++) {
                arguments[n] = arguments[n] instanceof Character letter ? (Object) (int) letter : arguments[n];
            }
            ask(fresh, (String) call[0], arguments);
        }
        return fresh;
    }

    private static boolean isRefusal(long answer) {
        return answer >= ThanksOwed.FULL && answer <= ThanksOwed.UNKNOWN;
    }

    private static void asked(String name, int[]... edges) {
        List<Object[]> rows = new ArrayList<>();
        rows.add(new Object[0]);
        for (int[] numbers : edges) {
            List<Object[]> longer = new ArrayList<>();
            for (Object[] row : rows) {
                for (int number : numbers) {
                    Object[] next = Arrays.copyOf(row, row.length + 1);
                    next[row.length] = name.equals("favour") && row.length == 3 ? (Object) (number == 1) : (Object) number;
                    longer.add(next);
                }
            }
            rows = longer;
        }
        for (int state = 0; state < STATES.length; state++) {
            refusedOf(name, rows, state);
        }
    }

    private static void refusedOf(String name, List<Object[]> rows, int state) {
        Model model = made(new Model(), STATES[state]);
        List<Object[]> refused = new ArrayList<>();
        List<Long> due = new ArrayList<>();
        for (Object[] row : rows) {
            long answer = ask(model, name, row);
            if (isRefusal(answer)) {
                refused.add(row);
                due.add(answer);
            } else {
                edge.due(told(name, row, state), ask(made(new ThanksOwed(), STATES[state]), name, row), answer);
                model = made(new Model(), STATES[state]);
            }
        }
        for (int first = 0; first < refused.size(); first += MOST_ASKED) {
            ThanksOwed x = made(new ThanksOwed(), STATES[state]);
            for (int n = first; n < refused.size() && n < first + MOST_ASKED; n++) {
                edge.due(told(name, refused.get(n), state), ask(x, name, refused.get(n)), due.get(n));
            }
            edge.same("behind refused " + name + " in state " + state, x, made(new ThanksOwed(), STATES[state]));
        }
    }

    private static String told(String name, Object[] row, int state) {
        return name + Arrays.toString(row) + " in state " + state;
    }

    @Sentence(promise = 2, words = "they change nothing")
    static void letter() {
        asked("letter", new int[] {MIN, -1, 0, 31, 32, 126, 127, MAX});
    }

    @Sentence(promise = 5, words = "they change nothing")
    static void law() {
        asked("law");
    }

    @Sentence(promise = 6, words = "they change nothing")
    static void person() {
        asked("person", KINDS, new int[] {MIN, -1, 0, 99, 100, MAX});
    }

    @Sentence(promise = 7, words = "they change nothing")
    static void about() {
        asked("about", PEOPLE, new int[] {MIN, -1, 0, 5, 6, MAX});
    }

    @Sentence(promise = 8, words = "they change nothing")
    static void as() {
        asked("as", PEOPLE, KINDS);
    }

    @Sentence(promise = 9, words = "they change nothing")
    static void between() {
        asked("between", PEOPLE, PEOPLE, new int[] {MIN, -1, 0, 2, 3, MAX});
    }

    @Sentence(promise = 10, words = "they change nothing")
    static void favour() {
        asked("favour", PEOPLE, PEOPLE, SIZES, NO_AND_YES);
    }

    @Sentence(promise = 12, words = "they change nothing")
    static void pay() {
        asked("pay", PEOPLE, PEOPLE, new int[] {MIN, -1, 0, 1, 9, 10, 30, 31, 999, 1000, MAX});
    }

    @Sentence(promise = 13, words = "they change nothing")
    static void setOff() {
        asked("setOff", PEOPLE, PEOPLE);
    }

    @Sentence(promise = 14, words = "they change nothing")
    static void ring() {
        asked("ring", PEOPLE, PEOPLE, PEOPLE);
    }

    @Sentence(promise = 15, words = "they change nothing")
    static void forgive() {
        asked("forgive", PEOPLE, PEOPLE);
    }

    @Sentence(promise = 16, words = "they change nothing")
    static void bankrupt() {
        asked("bankrupt", PEOPLE);
    }

    @Sentence(promise = 17, words = "they change nothing")
    static void ruin() {
        asked("ruin", PEOPLE);
    }

    @Sentence(promise = 19, words = "they change nothing")
    static void bestRing() {
        asked("bestRing", new int[] {MIN, -1, 0, 1, 2, 3, 9, 10, 11, 12, 13, 14, MAX});
    }

    @Sentence(promise = 20, words = "they change nothing")
    static void offer() {
        asked("offer", PEOPLE, PEOPLE, SIZES);
    }

    @Sentence(promise = 22, words = "they change nothing")
    static void accept() {
        int[] needs = {MIN, 0, 1, 500, 501, MAX};
        int[] weeks = {MIN, -1, 0, 20, 21, MAX};
        asked("accept", PEOPLE, needs, weeks, new int[] {MIN, -1, 0, 1, 2, MAX});
    }

    @Sentence(promise = 23, words = "they change nothing")
    static void grown() {
        int[] sums = {MIN, -1, 0, 9999, 10000, MAX};
        int[] weeks = {MIN, -1, 0, 40, 41, MAX};
        asked("grown", sums, weeks, KINDS, KINDS, new int[] {-1, 0, 1, 2});
    }

    @Sentence(promise = 24, words = "they change nothing")
    static void years() {
        int[] weeks = {MIN, -1, 0, 1, 60, 61, MAX};
        int[] seeds = {MIN, -1, 0, 1, MAX};
        asked("years", weeks, seeds, new int[] {MIN, -1, 0, 2, 3, MAX});
    }

    @Sentence(promise = 26, words = "they change nothing")
    static void restore() {
        asked("restore");
    }

    @Sentence(promise = 27, words = "they change nothing")
    static void count() {
        asked("count", new int[] {MIN, -1, 0, 10, 11, MAX});
    }
}
