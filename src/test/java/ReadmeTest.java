import java.io.IOException;
import java.lang.reflect.Method;
import java.lang.reflect.Modifier;
import java.net.URL;
import java.net.URLClassLoader;
import java.nio.file.Files;
import java.nio.file.Path;
import java.util.ArrayList;
import java.util.List;
import java.util.regex.Matcher;
import java.util.regex.Pattern;
import javax.tools.JavaCompiler;
import javax.tools.ToolProvider;

/** What README.md shows as an example answers as it says, and every call of the face is named there. */
public final class ReadmeTest {
    private static final Pattern NAMED = Pattern.compile("(\\w+ (\\w+) = .*;)\\s*// (-?\\d+|[A-Z]+|true|false): .*");
    private static final Pattern CALLED = Pattern.compile("(x\\..*);\\s*// (-?\\d+|[A-Z]+|true|false): .*");
    private static final Check check = new Check();

    public static void main(String[] args) throws Exception {
        String readme = Files.readString(Path.of("README.md"));
        namesEveryCall(readme);
        List<String> lines = exampleLines(readme);
        check.due("README.md has an example", lines.isEmpty() ? 0 : 1, 1);
        Path directory = Files.createTempDirectory("readme");
        try {
            runExample(directory, programOf(lines));
        } finally {
            remove(directory);
        }
        check.end();
    }

    /** Called by the program that is made of the example. */
    public static void answered(String shown, long got, long want) {
        check.due("README.md: " + shown, got, want);
    }

    public static void answered(String shown, boolean got, boolean want) {
        check.due("README.md: " + shown + " as it says", got == want ? 1 : 0, 1);
    }

    private static void namesEveryCall(String readme) {
        for (Method method : ThanksOwed.class.getDeclaredMethods()) {
            if (Modifier.isPublic(method.getModifiers())) {
                check.due("README.md names " + method.getName(), readme.contains("`" + method.getName() + "(") ? 1 : 0, 1);
            }
        }
    }

    private static List<String> exampleLines(String readme) {
        List<String> lines = new ArrayList<>();
        boolean inside = false;
        for (String line : readme.split("\n")) {
            if (line.startsWith("```")) {
                inside = line.equals("```java");
            } else if (inside) {
                lines.add(line);
            }
        }
        return lines;
    }

    private static String programOf(List<String> lines) {
        StringBuilder text = new StringBuilder("public final class ReadmeExample {\n");
        for (String name : new String[] {"NONE", "UNKNOWN", "OUTSIDE", "STATE", "FULL"}) {
            text.append("static final int ").append(name).append(" = ThanksOwed.").append(name).append(";\n");
        }
        text.append("public static void main(String[] args) {\n");
        for (String line : lines) {
            text.append(asked(line)).append('\n');
        }
        return text.append("}\n}\n").toString();
    }

    private static String asked(String line) {
        Matcher named = NAMED.matcher(line);
        if (named.matches()) {
            return named.group(1) + answer(named.group(1), named.group(2), named.group(3));
        }
        Matcher called = CALLED.matcher(line);
        if (called.matches()) {
            return answer(called.group(1), called.group(1), called.group(2));
        }
        check.due("README.md tells what this answers: " + line, line.startsWith("x.") ? 0 : 1, 1);
        return line;
    }

    private static String answer(String shown, String got, String want) {
        return " ReadmeTest.answered(\"" + shown.replace("\"", "\\\"") + "\", " + got + ", " + want + ");";
    }

    private static void runExample(Path directory, String program) throws Exception {
        Path source = directory.resolve("ReadmeExample.java");
        Files.writeString(source, program);
        JavaCompiler javac = ToolProvider.getSystemJavaCompiler();
        int compiled = javac == null ? -1 : javac.run(null, null, null, "-cp", System.getProperty("java.class.path"),
                "-d", directory.toString(), source.toString());
        check.due("javac of the example in README.md", compiled, 0);
        if (compiled != 0) {
            return;
        }
        try (URLClassLoader loader = new URLClassLoader(new URL[] {directory.toUri().toURL()})) {
            loader.loadClass("ReadmeExample").getMethod("main", String[].class).invoke(null, (Object) new String[0]);
        }
    }

    private static void remove(Path directory) throws IOException {
        try (var paths = Files.list(directory)) {
            for (Path path : paths.toList()) {
                Files.delete(path);
            }
        }
        Files.delete(directory);
    }
}
