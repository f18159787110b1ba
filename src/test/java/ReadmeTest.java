import java.io.IOException;
import java.lang.reflect.InvocationTargetException;
import java.lang.reflect.Method;
import java.nio.file.DirectoryStream;
import java.nio.file.Files;
import java.nio.file.Path;
import java.util.ArrayList;
import java.util.List;
import java.util.Set;
import java.util.TreeSet;
import java.util.regex.Matcher;
import java.util.regex.Pattern;

/** What README.md shows: each of its calls is made, and answers what stands behind it there. */
public final class ReadmeTest {
    private static final String MAKING = "KnifeLedger ledger = new KnifeLedger();";
    private static final Pattern CALL =
            Pattern.compile("ledger\\.(\\w+)\\(([-0-9, ]*)\\); +// (throws |)([-.\\w]+): .+");
    private static final Check check = new Check();

    public static void main(String[] args) throws IOException {
        List<String> readme = Files.readAllLines(Path.of("README.md"));
        List<String> tests = testNames();
        check.runs(
                () -> calls(readme), () -> wayToRunTheTests(readme),
                () -> everyTestIsNamed(readme, tests));
    }

    private static List<String> testNames() throws IOException {
        List<String> names = new ArrayList<>();
        try (DirectoryStream<Path> files =
                Files.newDirectoryStream(Path.of("src/test/java"), "*Test.java")) {
            for (Path file : files) {
                names.add(file.getFileName().toString().replace(".java", ""));
            }
        }
        return names;
    }

    private static List<String> javaLines(List<String> readme) {
        List<String> lines = new ArrayList<>();
        boolean inside = false;
        for (String line : readme) {
            if (line.startsWith("```")) {
                inside = line.equals("```java");
            } else if (inside && !line.isBlank()) {
                lines.add(line);
            }
        }
        return lines;
    }

    private static void calls(List<String> readme) {
        KnifeLedger ledger = null;
        Set<String> shown = new TreeSet<>();
        for (String line : javaLines(readme)) {
            Matcher call = CALL.matcher(line);
            if (line.equals(MAKING)) {
                ledger = new KnifeLedger();
            } else if (ledger == null || !call.matches()) {
                check.tell("README.md shows what is no call with its answer: " + line);
            } else {
                shown.add(call.group(1));
                isDue(line, call.group(3) + call.group(4), answer(ledger, call.group(1), call.group(2)));
            }
        }
        for (Method method : KnifeLedger.class.getMethods()) {
            if (method.getDeclaringClass() == KnifeLedger.class) {
                check.isTrue("README.md shows " + method.getName(), shown.contains(method.getName()));
            }
        }
    }

    private static void isDue(String line, String due, String got) {
        check.isTrue(line + " (answered " + got + ")", got.equals(due));
    }

    private static String answer(KnifeLedger ledger, String name, String told) {
        String[] texts = told.isEmpty() ? new String[0] : told.split(", ");
        Object[] numbers = new Object[texts.length];
        Class<?>[] types = new Class<?>[texts.length];
        for (int at = 0; at < texts.length; at++) {
            numbers[at] = Integer.valueOf(texts[at]);
            types[at] = int.class;
        }
        try {
            return String.valueOf(KnifeLedger.class.getMethod(name, types).invoke(ledger, numbers));
        } catch (InvocationTargetException e) {
            return "throws " + e.getCause().getClass().getSimpleName();
        } catch (ReflectiveOperationException e) {
            return e.toString();
        }
    }

    private static void wayToRunTheTests(List<String> readme) {
        int from = readme.indexOf("## Tests");
        check.isTrue("README.md tells of tests", from >= 0);
        List<String> commands = new ArrayList<>();
        for (String line : readme.subList(Math.max(from, 0), readme.size())) {
            if (line.startsWith("    ")) {
                commands.add(line.strip());
            }
        }
        check.isTrue("the way to run the tests, " + commands, commands.equals(List.of(".ci/run")));
        check.isTrue(".ci/run can be run", Files.isExecutable(Path.of(".ci/run")));
    }

    private static void everyTestIsNamed(List<String> readme, List<String> tests) {
        String table = String.join("\n", readme.stream().filter(line -> line.startsWith("| ")).toList());
        for (String test : tests) {
            check.isTrue("README.md names " + test, Pattern.compile("\\b" + test + "\\b").matcher(table).find());
        }
    }
}
