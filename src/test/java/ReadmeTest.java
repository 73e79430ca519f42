import java.io.IOException;
import java.lang.reflect.InvocationTargetException;
import java.lang.reflect.Method;
import java.lang.reflect.Modifier;
import java.nio.file.Files;
import java.nio.file.Path;
import java.util.ArrayList;
import java.util.HashMap;
import java.util.List;
import java.util.Map;
import java.util.regex.Matcher;
import java.util.regex.Pattern;

/** That README.md tells every call, and that its example answers what is written beside it. */
public final class ReadmeTest {
    private static final Pattern CALL = Pattern.compile(
        "(?:int (?<name>\\w+) = )?court\\.(?<method>\\w+)\\((?<argument>-?\\w+)?\\);(?:\\s*// (?<answer>[^:]+).*)?");

    private static final Map<String, Integer> names = new HashMap<>();

    public static void main(String[] args) throws IOException, ReflectiveOperationException {
        List<String> lines = Files.readAllLines(Path.of("README.md"));
        example(exampleOf(lines));
        everyCall(lines);
        Due.same("how its tests are run", lines.contains(".ci/run"), true);
        Due.end();
    }

    private static List<String> exampleOf(List<String> lines) {
        List<String> example = new ArrayList<>();
        int from = lines.indexOf("```java") + 1;
        for (int i = from; from > 0 && !lines.get(i).equals("```"); i++) {
            if (!lines.get(i).isEmpty()) {
                example.add(lines.get(i));
            }
        }
        return example;
    }

    private static void example(List<String> example) throws ReflectiveOperationException {
        Due.same("it begins", example.get(0), "ClauseCourt court = new ClauseCourt();");
        ClauseCourt court = new ClauseCourt();
        for (String line : example.subList(1, example.size())) {
            Matcher call = CALL.matcher(line);
            Due.same(line + " is a call", call.matches(), true);
            if (call.matches()) {
                String want = call.group("answer") == null ? "null" : call.group("answer");
                Due.same(line, answerOf(court, call), want);
            }
        }
    }

    private static String answerOf(ClauseCourt court, Matcher call) throws ReflectiveOperationException {
        String argument = call.group("argument");
        try {
            Object answer = argument == null
                ? ClauseCourt.class.getMethod(call.group("method")).invoke(court)
                : ClauseCourt.class.getMethod(call.group("method"), int.class).invoke(court, number(argument));
            if (call.group("name") != null) {
                names.put(call.group("name"), (Integer) answer);
            }
            return "" + answer;
        } catch (InvocationTargetException e) {
            return "throws " + e.getCause().getClass().getSimpleName();
        }
    }

    private static int number(String argument) {
        if (argument.startsWith("-")) {
            return -number(argument.substring(1));
        }
        return names.containsKey(argument) ? names.get(argument) : Integer.parseInt(argument);
    }

    private static void everyCall(List<String> lines) {
        for (Method method : ClauseCourt.class.getDeclaredMethods()) {
            if (Modifier.isPublic(method.getModifiers())) {
                String row = "| `" + method.getName() + "(";
                boolean told = lines.stream().anyMatch(line -> line.startsWith(row));
                Due.same("a row for " + method.getName(), told, true);
            }
        }
    }
}
