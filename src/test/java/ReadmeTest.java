import java.io.IOException;
import java.lang.reflect.Method;
import java.nio.file.Files;
import java.nio.file.Path;
import java.util.ArrayList;
import java.util.Arrays;
import java.util.List;
import java.util.Set;
import java.util.TreeSet;
import java.util.regex.Matcher;
import java.util.regex.Pattern;

/** What README.md tells of the class holds: its run answers as written, its table has every call. */
public final class ReadmeTest {
    private static final Pattern STEP =
        Pattern.compile("orbiter\\.(\\w+)\\(([^)]*)\\); +// (?:(-?\\d+|true|false)(?=:|$))?.*");
    private static final Pattern TABLE_ROW = Pattern.compile("(?m)^\\| `(\\w+)\\(");

    public static void main(String[] args) throws IOException, ReflectiveOperationException {
        String readme = Files.readString(Path.of("README.md"));
        int from = readme.indexOf("```java\n");
        String run = readme.substring(from + 8, readme.indexOf("```", from + 8));
        runAnswersAsWritten(run.split("\n"));
        tableHasEveryCall(readme);
        Due.end();
    }

    private static void runAnswersAsWritten(String... lines) throws ReflectiveOperationException {
        Due.same("the first line", lines[0], "RelayOrbiter orbiter = new RelayOrbiter();");
        RelayOrbiter orbiter = new RelayOrbiter();
        Set<String> used = new TreeSet<>();
        for (int k = 1; k < lines.length; k++) {
            Matcher step = STEP.matcher(lines[k]);
            boolean isStep = step.matches();
            Due.isTrue("a call with its comment: " + lines[k], isStep);
            if (isStep) {
                used.add(step.group(1));
                // A method without an answer answers null by reflection, and so does a line without one.
                Object got = call(orbiter, step.group(1), numbersOf(step.group(2)));
                Due.same(lines[k], String.valueOf(got), String.valueOf(step.group(3)));
            }
        }
        Due.same("the calls of the run", used.toString(), namesOfTheFace().toString());
    }

    private static void tableHasEveryCall(String readme) {
        Set<String> told = new TreeSet<>();
        Matcher row = TABLE_ROW.matcher(readme);
        while (row.find()) {
            told.add(row.group(1));
        }
        Due.same("the calls of the table", told.toString(), namesOfTheFace().toString());
    }

    private static Object[] numbersOf(String arguments) {
        List<Object> numbers = new ArrayList<>();
        for (String argument : arguments.split(", ")) {
            if (!argument.isEmpty()) {
                numbers.add(Long.decode(argument).intValue());
            }
        }
        return numbers.toArray();
    }

    private static Object call(RelayOrbiter orbiter, String name, Object... numbers)
            throws ReflectiveOperationException {
        Class<?>[] types = new Class<?>[numbers.length];
        Arrays.fill(types, int.class);
        return RelayOrbiter.class.getMethod(name, types).invoke(orbiter, numbers);
    }

    private static Set<String> namesOfTheFace() {
        Set<String> names = new TreeSet<>();
        for (Method method : RelayOrbiter.class.getMethods()) {
            if (method.getDeclaringClass() == RelayOrbiter.class) {
                names.add(method.getName());
            }
        }
        return names;
    }
}
