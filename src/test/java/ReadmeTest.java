import java.io.IOException;
import java.lang.reflect.Executable;
import java.lang.reflect.InvocationTargetException;
import java.lang.reflect.Method;
import java.lang.reflect.Modifier;
import java.nio.file.Files;
import java.nio.file.Path;
import java.util.ArrayList;
import java.util.Arrays;
import java.util.HashMap;
import java.util.List;
import java.util.Map;
import java.util.TreeSet;
import java.util.regex.Matcher;
import java.util.regex.Pattern;
import java.util.stream.Stream;

/** README.md tells every call of the face and every test, and its examples answer what their comments say. */
public final class ReadmeTest {
    private static final String NEW_OBJECT = "DeskTurns x = new DeskTurns();";
    // A line of an example, as in: int a = x.desk(1, 0); // 0: why
    private static final Pattern CALL = Pattern.compile("(?:int (\\w+) = )?x\\.(\\w+)\\((.*?)\\); *// (.+?): .+");
    // A row of the table of calls; its first cell is the call's head.
    private static final Pattern ROW = Pattern.compile("\\| `(?:\\w+ )?(\\w+)\\((.*?)\\)` \\| .+ \\|(.*)\\|");
    private static final Pattern EXCEPTION = Pattern.compile("\\w+Exception");

    private static final Due due = new Due();

    public static void main(String[] args) throws IOException {
        List<String> readme = Files.readAllLines(Path.of("README.md"));
        due.test("README.md tells each call of the public face", () -> eachCallHasItsRow(readme));
        due.test("README.md's examples are true", () -> examplesAreTrue(readme));
        due.test("README.md tells how to run the tests", () -> due.is(".ci/run", readme.contains("    .ci/run"), true));
        List<String> tests = testNames();
        due.test("README.md tells each test", () -> eachTestIsNamed(String.join("\n", readme), tests));
        due.end();
    }

    private static void eachCallHasItsRow(List<String> readme) {
        TreeSet<String> rows = new TreeSet<>();
        for (String line : readme) {
            Matcher row = ROW.matcher(line);
            if (row.matches()) {
                List<String> thrown = EXCEPTION.matcher(row.group(3)).results().map(r -> r.group()).toList();
                rows.add(row.group(1) + " takes " + typesOf(row.group(2)) + ", throws " + thrown);
            }
        }
        due.is("the rows", String.join("\n", rows), String.join("\n", face()));
    }

    private static List<String> typesOf(String parameters) {
        return Stream.of(parameters.split(", *")).filter(p -> !p.isEmpty()).map(p -> p.split(" ")[0]).toList();
    }

    private static TreeSet<String> face() {
        TreeSet<String> face = new TreeSet<>();
        face.add(head("DeskTurns", DeskTurns.class.getConstructors()[0]));
        for (Method m : publicMethods()) {
            face.add(head(m.getName(), m));
        }
        return face;
    }

    private static List<Method> publicMethods() {
        return Stream.of(DeskTurns.class.getDeclaredMethods()).filter(m -> Modifier.isPublic(m.getModifiers())).toList();
    }

    private static String head(String name, Executable e) {
        return name + " takes " + names(e.getParameterTypes()) + ", throws " + names(e.getExceptionTypes());
    }

    private static List<String> names(Class<?>[] types) {
        return Arrays.stream(types).map(Class::getSimpleName).toList();
    }

    private static void examplesAreTrue(List<String> readme) {
        TreeSet<String> used = new TreeSet<>();
        boolean inExample = false;
        DeskTurns x = null;
        Map<String, Integer> numbers = new HashMap<>();
        for (String line : readme) {
            if (line.startsWith("```")) {
                inExample = line.equals("```java");
            } else if (inExample && line.equals(NEW_OBJECT)) {
                x = new DeskTurns();
                numbers = new HashMap<>(Map.of("DeskTurns.NONE", DeskTurns.NONE));
            } else if (inExample) {
                used.add(check(x, line, numbers));
            }
        }
        TreeSet<String> all = new TreeSet<>(publicMethods().stream().map(Method::getName).toList());
        due.is("the calls that the examples use", used.toString(), all.toString());
    }

    /** Makes the line's call and compares: the name of what was called. */
    private static String check(DeskTurns x, String line, Map<String, Integer> numbers) {
        Matcher call = CALL.matcher(line);
        if (!call.matches()) {
            due.is(line, "no call with an answer", "one");
            return "";
        }
        List<Object> arguments = new ArrayList<>();
        for (String a : call.group(3).split(", *")) {
            if (!a.isEmpty()) {
                arguments.add(numbers.containsKey(a) ? numbers.get(a) : Integer.valueOf(a));
            }
        }
        Object answer = answer(x, call.group(2), arguments.toArray());
        due.is(line, answer.toString(), call.group(4).equals("NONE") ? "-1" : call.group(4));
        if (call.group(1) != null && answer instanceof Integer number) {
            numbers.put(call.group(1), number);
        }
        return call.group(2);
    }

    private static Object answer(DeskTurns x, String name, Object[] arguments) {
        try {
            for (Method m : publicMethods()) {
                if (m.getName().equals(name)) {
                    return m.invoke(x, arguments);
                }
            }
            return "no such call";
        } catch (InvocationTargetException e) {
            return e.getCause().getClass().getSimpleName();
        } catch (IllegalAccessException e) {
            return "cannot be called";
        }
    }

    private static List<String> testNames() throws IOException {
        try (Stream<Path> files = Files.list(Path.of("src/test/java"))) {
            return files.map(f -> f.getFileName().toString().replace(".java", "")).sorted().toList();
        }
    }

    private static void eachTestIsNamed(String readme, List<String> tests) {
        for (String test : tests) {
            due.is(test, readme.contains("`" + test + "`"), true);
        }
    }
}
