import java.lang.reflect.InvocationTargetException;
import java.lang.reflect.Method;
import java.nio.file.Files;
import java.nio.file.Path;
import java.util.Map;
import java.util.regex.Matcher;
import java.util.regex.Pattern;

/** README.md's run of calls, played line by line: each call answers what it says there. */
public final class ReadmeTest {
    private static final Pattern CALL = Pattern.compile("force\\.(\\w+)\\(([^()]*)\\); +// (-?\\d+|[A-Z]+): .+");
    private static final Pattern TEXT = Pattern.compile("String text = \"([^\"]+)\";");
    private static final String MAKE = "LieForce force = new LieForce();";
    private static final String WRITE = "for (int i = 0; i < text.length(); i++) force.write(text.charAt(i));";
    private static final Map<String, Integer> REFUSALS =
        Map.of("BAD", LieForce.BAD, "NO", LieForce.NO, "FULL", LieForce.FULL, "NONE", LieForce.NONE);
    private static final Checks checks = new Checks();

    private LieForce force;
    private String text = "";
    private int calls;

    public static void main(String[] args) throws Exception {
        String readme = Files.readString(Path.of("README.md"));
        int from = readme.indexOf("```java\n");
        int to = readme.indexOf("```\n", from + 1);
        checks.due("README.md has a run of calls", from >= 0 && to > from ? 1 : 0, 1);
        if (from >= 0 && to > from) new ReadmeTest().play(readme.substring(from, to).split("\n"));
        namesEachTest(readme);
        checks.end();
    }

    private void play(String[] lines) throws Exception {
        for (int i = 1; i < lines.length; i++) playLine(lines[i].strip());
        checks.due("README.md has some calls", calls >= 20 ? 1 : 0, 1);
    }

    private void playLine(String line) throws Exception {
        Matcher call = CALL.matcher(line);
        Matcher told = TEXT.matcher(line);
        if (line.equals(MAKE)) force = new LieForce();
        else if (told.matches()) text = told.group(1);
        else if (line.equals(WRITE)) Checks.write(force, text);
        else if (call.matches()) playCall(line, call);
        else checks.due("README.md: a line that is played: " + line, line.isEmpty() || line.startsWith("//") ? 1 : 0, 1);
    }

    private void playCall(String line, Matcher call) throws Exception {
        calls++;
        String answer = call.group(3);
        int want = REFUSALS.containsKey(answer) ? REFUSALS.get(answer) : Integer.parseInt(answer);
        checks.due("README.md: " + line, answerOf(call.group(1), call.group(2)), want);
    }

    private int answerOf(String name, String told) throws IllegalAccessException, InvocationTargetException {
        String[] numbers = told.isEmpty() ? new String[0] : told.split(", ");
        for (Method method : LieForce.class.getMethods()) {
            if (!method.getName().equals(name) || method.getParameterCount() != numbers.length) continue;
            Object[] given = new Object[numbers.length];
            for (int i = 0; i < given.length; i++) given[i] = given(method.getParameterTypes()[i], numbers[i]);
            return (int) method.invoke(force, given);
        }
        throw new IllegalStateException("no such call: " + name);
    }

    /** As javac would have it, so that a call which can not be compiled is not played either. */
    private static Object given(Class<?> type, String told) {
        if (type == int.class) return Integer.parseInt(told);
        if (told.equals("true") || told.equals("false")) return told.equals("true");
        throw new IllegalStateException(told + " is no boolean");
    }

    private static void namesEachTest(String readme) throws Exception {
        try (var files = Files.list(Path.of("src/test/java"))) {
            for (Path file : files.toList()) {
                String name = file.getFileName().toString().replace(".java", "");
                if (name.endsWith("Test")) checks.due("README.md names " + name, readme.contains("| `" + name + "` |") ? 1 : 0, 1);
            }
        }
    }
}
