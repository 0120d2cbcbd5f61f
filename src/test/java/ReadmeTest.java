import java.io.File;
import java.io.IOException;
import java.lang.reflect.Method;
import java.lang.reflect.Modifier;
import java.nio.file.Files;
import java.nio.file.Path;
import java.util.List;
import java.util.Set;
import java.util.TreeSet;
import java.util.regex.Matcher;
import java.util.regex.Pattern;

/** README.md: its examples answer as it says, and it leaves out no call, fault or test. */
public final class ReadmeTest {
    private static final Check check = new Check();
    private static final Pattern CALL = Pattern.compile("x\\.(\\w+)\\(([-0-9, ]*)\\);");
    private static final Pattern LINE =
        Pattern.compile("(" + CALL.pattern() + " *)+// (?<answer>true|false|-?[0-9]+)(:.*)?");
    private static final int[] FAULTS = {2, 3, 5, 6, 7, 8, 9, 10, 11, 12, 13, 14, 15, 16};

    private final Set<String> shown = new TreeSet<>();
    private SpendScript x = new SpendScript();

    public static void main(String[] args) throws ReflectiveOperationException, IOException {
        List<String> readme = Files.readAllLines(Path.of("README.md"));
        new ReadmeTest().examples(readme);
        tables(String.join("\n", readme));
        check.finish();
    }

    private void examples(List<String> readme) throws ReflectiveOperationException {
        boolean inside = false;
        for (String line : readme) {
            if (line.startsWith("```")) {
                inside = line.equals("```java");
            } else if (inside && line.equals("SpendScript x = new SpendScript();")) {
                x = new SpendScript();
            } else if (inside) {
                example(line);
            }
        }
        check.due("calls that the examples show", shown, face());
    }

    private void example(String line) throws ReflectiveOperationException {
        Matcher whole = LINE.matcher(line);
        check.due("form of <" + line + ">", whole.matches(), true);
        if (!whole.matches()) {
            return;
        }
        Matcher call = CALL.matcher(line);
        while (call.find()) {
            shown.add(call.group(1));
            check.due("<" + call.group() + "> in <" + line + ">", answer(call), whole.group("answer"));
        }
    }

    private String answer(Matcher call) throws ReflectiveOperationException {
        int[] given = call.group(2).isEmpty() ? new int[0]
            : Pattern.compile(", *").splitAsStream(call.group(2)).mapToInt(Integer::parseInt).toArray();
        Class<?>[] types = new Class<?>[given.length];
        Object[] values = new Object[given.length];
        for (int i = 0; i < given.length; i++) {
            types[i] = int.class;
            values[i] = given[i];
        }
        return SpendScript.class.getMethod(call.group(1), types).invoke(x, values).toString();
    }

    private static Set<String> face() {
        Set<String> names = new TreeSet<>();
        for (Method method : SpendScript.class.getDeclaredMethods()) {
            if (Modifier.isPublic(method.getModifiers())) {
                names.add(method.getName());
            }
        }
        return names;
    }

    private static void tables(String readme) {
        for (String name : face()) {
            check.due("a row for " + name, readme.contains("\n| `" + name + "("), true);
        }
        for (int fault : FAULTS) {
            check.due("a row for fault " + fault, readme.contains("\n| " + fault + " | "), true);
        }
        String[] tests = new File("src/test/java").list((directory, name) -> name.endsWith("Test.java"));
        check.due("there are tests", tests != null && tests.length > 0, true);
        for (String test : tests == null ? new String[0] : tests) {
            String name = "`" + test.replace(".java", "") + "`";
            check.due("a row for " + name, readme.matches("(?s).*\n\\|[^\n]*" + name + ".*"), true);
        }
        check.due("how to run the tests", readme.contains("\n    .ci/run\n"), true);
    }
}
