import java.lang.reflect.Constructor;
import java.lang.reflect.Field;
import java.lang.reflect.Method;
import java.lang.reflect.Modifier;
import java.util.Arrays;
import java.util.Set;
import java.util.TreeSet;

/** The public face is the document's, and nothing else can be seen from outside (LANGUAGE.md, rules 1 and 5). */
public final class FaceTest {
    private static final Check check = new Check();
    private static final String[] METHODS = {
        "int letter(int)", "int blank()", "int fault()", "int law()", "int person(int,int)", "int about(int,int)",
        "int as(int,int)", "int between(int,int,int)", "int favour(int,int,int,boolean)", "int week()",
        "int pay(int,int,int)", "int setOff(int,int)", "int ring(int,int,int)", "int forgive(int,int)",
        "int bankrupt(int)", "int ruin(int)", "int settling()", "int bestRing(int)", "int offer(int,int,int)",
        "int forget()", "int accept(int,int,int,int)", "int grown(int,int,int,int,int)", "int years(int,int,int)",
        "int image()", "int restore()", "int count(int)", "long digest()"};

    public static void main(String[] args) {
        methods();
        fields();
        check.due("public and final", ThanksOwed.class.getModifiers(), Modifier.PUBLIC | Modifier.FINAL);
        Constructor<?>[] made = ThanksOwed.class.getDeclaredConstructors();
        check.due("constructors", made.length, 1);
        check.due("public, without parameters", made[0].getParameterCount() + made[0].getModifiers(), Modifier.PUBLIC);
        constants();
        check.end();
    }

    private static void methods() {
        Set<String> seen = new TreeSet<>();
        Set<String> faceNames = new TreeSet<>();
        for (String told : METHODS) {
            faceNames.add(told.substring(told.indexOf(' ') + 1, told.indexOf('(')));
        }
        for (Method method : ThanksOwed.class.getDeclaredMethods()) {
            if (Modifier.isPrivate(method.getModifiers())) {
                check.due("private " + method.getName() + " bears a public name", faceNames.contains(method.getName()) ? 1 : 0, 0);
                continue;
            }
            StringBuilder text = new StringBuilder(method.getReturnType() + " " + method.getName() + "(");
            for (Class<?> type : method.getParameterTypes()) {
                text.append(text.charAt(text.length() - 1) == '(' ? "" : ",").append(type);
            }
            seen.add(text.append(")").toString());
            check.due(method.getName() + " is public alone", method.getModifiers(), Modifier.PUBLIC);
        }
        Set<String> due = new TreeSet<>(Arrays.asList(METHODS));
        check.due("methods " + seen, seen.equals(due) ? 1 : 0, 1);
    }

    private static void fields() {
        Set<String> seen = new TreeSet<>();
        for (Field field : ThanksOwed.class.getDeclaredFields()) {
            int modifiers = field.getModifiers();
            if (Modifier.isStatic(modifiers)) {
                check.due(field.getName() + " is final", Modifier.isFinal(modifiers) ? 1 : 0, 1);
            }
            if (!Modifier.isPrivate(modifiers)) {
                seen.add(field.getName());
            }
        }
        check.due("fields " + seen, seen.equals(Set.of("NONE", "UNKNOWN", "OUTSIDE", "STATE", "FULL")) ? 1 : 0, 1);
    }

    private static void constants() {
        check.due("NONE", ThanksOwed.NONE, -1);
        check.due("UNKNOWN", ThanksOwed.UNKNOWN, -101);
        check.due("OUTSIDE", ThanksOwed.OUTSIDE, -102);
        check.due("STATE", ThanksOwed.STATE, -103);
        check.due("FULL", ThanksOwed.FULL, -104);
    }
}
