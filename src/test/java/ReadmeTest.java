import java.io.IOException;
import java.lang.reflect.Method;
import java.lang.reflect.Modifier;
import java.nio.charset.StandardCharsets;
import java.nio.file.Files;
import java.nio.file.Path;
import java.util.ArrayList;
import java.util.List;
import java.util.TreeSet;

/** README.md tells every call with its exceptions, and its example holds; run from the project's folder. */
final class ReadmeTest {
    public static void main(String[] arguments) throws IOException {
        Runs runs = new Runs();
        List<String> lines = Files.readAllLines(Path.of("README.md"), StandardCharsets.UTF_8);
        runs.same("the calls in the tables", callsOfTheClass(), callsIn(lines));
        runs.same("NONE is told", true, lines.stream().anyMatch(
                line -> line.contains("`SlewPlanner.NONE` is " + SlewPlanner.NONE)));
        for (String name : new String[] {"IndexOutOfBounds", "IllegalArgument", "IllegalState"}) {
            runs.same(name + "Exception is told", true, lines.stream().anyMatch(
                    line -> line.contains("| `" + name + "Exception` |")));
        }
        runs.run("the example", example(lines));
        tests(runs, lines);
        runs.end();
    }

    /** Each call as the tables have it: its name, the number of its arguments, signs of exceptions. */
    private static TreeSet<String> callsOfTheClass() {
        TreeSet<String> calls = new TreeSet<>();
        for (Method method : SlewPlanner.class.getDeclaredMethods()) {
            if (Modifier.isPublic(method.getModifiers())) {
                StringBuilder signs = new StringBuilder();
                for (Class<?> thrown : method.getExceptionTypes()) {
                    signs.append(thrown == IndexOutOfBoundsException.class ? " I"
                            : thrown == IllegalArgumentException.class ? " A" : " S");
                }
                calls.add(method.getName() + " " + method.getParameterCount() + signs);
            }
        }
        return calls;
    }

    private static TreeSet<String> callsIn(List<String> lines) {
        TreeSet<String> calls = new TreeSet<>();
        for (String line : lines) {
            String[] parts = line.split("\\|", -1);
            if (parts.length == 5 && parts[1].matches(" `\\w+\\(.*\\)` ")) {
                int bracket = parts[1].indexOf('(');
                String inside = parts[1].substring(bracket + 1, parts[1].indexOf(')'));
                int count = inside.isEmpty() ? 0 : inside.split(",").length;
                String signs = parts[3].isBlank() ? "" : " " + parts[3].trim();
                calls.add(parts[1].substring(2, bracket) + " " + count + signs);
            }
        }
        return calls;
    }

    /** The calls of the example, each with the answer that stands behind it. */
    private static String[] example(List<String> lines) {
        List<String> calls = new ArrayList<>();
        for (String line : lines) {
            if (line.startsWith("planner.")) {
                String[] parts = line.substring("planner.".length()).split("; *// ");
                calls.add(parts[0] + " = " + parts[1].replaceAll(":.*", "") + ";");
            }
        }
        return calls.toArray(new String[0]);
    }

    private static void tests(Runs runs, List<String> lines) {
        String[] names = Path.of("src/test/java").toFile().list();
        runs.same("there are tests", true, names != null);
        for (String name : names == null ? new String[0] : names) {
            if (name.endsWith("Test.java")) {
                String told = "`" + name.substring(0, name.length() - ".java".length()) + "`";
                runs.same("the tests' table has " + told, true, lines.stream().anyMatch(
                        line -> line.startsWith("| `") && line.contains(told)));
            }
        }
    }
}
