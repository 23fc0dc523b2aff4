import java.lang.reflect.Field;
import java.lang.reflect.Method;
import java.lang.reflect.Modifier;
import java.nio.file.Files;
import java.nio.file.Path;
import java.util.HashSet;
import java.util.Set;
import java.util.regex.Matcher;
import java.util.regex.Pattern;

/** That README.md, in the directory where the test runs, tells each call, and that its run answers as told there. */
public final class ReadmeTest {
    private static final Pattern STEP = Pattern.compile("x\\.(\\w+)\\(([^)]*)\\);\\s+// (-?\\w+)(:.*)?");
    private static final Pattern ROW = Pattern.compile("(?m)^\\| `(\\w+)\\(([^)]*)\\)` \\| .+ \\| .*\\|$");
    private static final Pattern REFUSAL = Pattern.compile("(?m)^\\| `([A-Z]+)` (-\\d+) \\| .+ \\|$");

    private final Checks checks = new Checks("ReadmeTest");

    public static void main(String[] args) throws Exception {
        ReadmeTest test = new ReadmeTest();
        String readme = Files.readString(Path.of("README.md"));
        test.theRunAnswersAsTold(readme);
        test.eachCallHasARow(readme);
        test.eachRefusalHasARow(readme);
        test.testsAreTold(readme);
        test.checks.end();
    }

    private static Method call(String name) {
        for (Method method : SlotTurns.class.getDeclaredMethods()) {
            if (method.getName().equals(name) && Modifier.isPublic(method.getModifiers())) {
                return method;
            }
        }
        throw new IllegalArgumentException("README.md tells a call that is not there: " + name);
    }

    private static String[] parted(String arguments) {
        return arguments.isEmpty() ? new String[0] : arguments.split(", ");
    }

    private void eachCallIsAmong(String where, Set<String> told) {
        for (Method method : SlotTurns.class.getDeclaredMethods()) {
            if (Modifier.isPublic(method.getModifiers())) {
                checks.holds(where + " " + method.getName(), told.contains(method.getName()));
            }
        }
    }

    private void theRunAnswersAsTold(String readme) throws Exception {
        int from = readme.indexOf("```java\n");
        int to = readme.indexOf("\n```\n", from);
        checks.holds("there is a run", from >= 0 && to > from);
        SlotTurns x = new SlotTurns();
        Set<String> told = new HashSet<>();
        for (String line : readme.substring(from, to).split("\n")) {
            Matcher step = STEP.matcher(line);
            if (step.matches()) {
                told.add(step.group(1));
                checks.due(line, answer(x, step.group(1), step.group(2)), number(step.group(3)));
            } else {
                checks.holds("a step: " + line, line.equals("```java")
                        || line.equals("SlotTurns x = new SlotTurns();"));
            }
        }
        eachCallIsAmong("the run asks", told);
    }

    private static int answer(SlotTurns x, String name, String arguments) throws Exception {
        Method method = call(name);
        String[] parts = parted(arguments);
        Object[] values = new Object[parts.length];
        for (int i = 0; i < parts.length; i++) {
            boolean isTruth = method.getParameterTypes()[i] == boolean.class;
            values[i] = isTruth ? (Object) Boolean.valueOf(parts[i]) : (Object) Integer.valueOf(parts[i]);
        }
        return (Integer) method.invoke(x, values);
    }

    private static int number(String told) throws Exception {
        return told.matches("-?\\d+") ? Integer.parseInt(told) : SlotTurns.class.getField(told).getInt(null);
    }

    private void eachCallHasARow(String readme) {
        Set<String> told = new HashSet<>();
        Matcher row = ROW.matcher(readme);
        while (row.find()) {
            checks.holds("one row of " + row.group(1), told.add(row.group(1)));
            checks.due("the arguments of " + row.group(1), parted(row.group(2)).length,
                    call(row.group(1)).getParameterCount());
        }
        eachCallIsAmong("a row tells", told);
    }

    private void eachRefusalHasARow(String readme) throws Exception {
        Set<String> told = new HashSet<>();
        Matcher row = REFUSAL.matcher(readme);
        while (row.find()) {
            told.add(row.group(1));
            checks.due(row.group(1), Integer.parseInt(row.group(2)), number(row.group(1)));
        }
        for (Field field : SlotTurns.class.getDeclaredFields()) {
            if (Modifier.isPublic(field.getModifiers())) {
                checks.holds("a row tells " + field.getName(), told.contains(field.getName()));
            }
        }
    }

    private void testsAreTold(String readme) throws Exception {
        checks.holds("how all tests are run", readme.contains("\n    .ci/run\n"));
        try (var files = Files.newDirectoryStream(Path.of("src/test/java"), "*Test.java")) {
            for (Path file : files) {
                checks.holds("the test " + file.getFileName(), readme.contains("`src/test/java/" + file.getFileName()));
            }
        }
    }
}
