import java.io.IOException;
import java.lang.reflect.Method;
import java.nio.charset.StandardCharsets;
import java.nio.file.Files;
import java.nio.file.Path;
import java.util.HashSet;
import java.util.List;
import java.util.Set;
import java.util.regex.Matcher;
import java.util.regex.Pattern;

/** README.md tells no answer that the program does not give. */
public final class ReadmeTest {
    private static final Pattern MADE = Pattern.compile("ChainTables x = new ChainTables\\(\\);");
    private static final Pattern CALL = Pattern.compile("x\\.(\\w+)\\(([^)]*)\\); +// ([^:]+): .+");
    private static final Pattern ROW = Pattern.compile("\\| `(\\w+)` \\| .+ \\|");

    private final Set<String> answers = new HashSet<>();
    private final Set<String> tests = new HashSet<>();
    private ChainTables x = new ChainTables();

    public static void main(String[] args) throws IOException {
        ReadmeTest test = new ReadmeTest();
        List<String> lines = Files.readAllLines(Path.of("README.md"), StandardCharsets.UTF_8);
        boolean inCode = false;
        for (String line : lines) {
            if (line.startsWith("```")) {
                inCode = line.equals("```java");
            } else if (inCode) {
                test.read(line);
            } else {
                test.readRow(line);
            }
        }
        test.judge();
        Check.end();
    }

    private void read(String line) {
        if (MADE.matcher(line).matches()) {
            x = new ChainTables();
            return;
        }
        Matcher call = CALL.matcher(line);
        boolean told = call.matches();
        Check.due("README.md tells what comes of " + line, told, true);
        if (told) {
            answers.add(call.group(3));
            Check.due("README.md: " + line, answer(call.group(1), call.group(2).split(", *")), due(call.group(3)));
        }
    }

    private void readRow(String line) {
        Matcher row = ROW.matcher(line);
        if (row.matches()) {
            tests.add(row.group(1));
        }
    }

    private String answer(String name, String[] told) {
        Method method = Both.FACE.get(name);
        Class<?>[] types = method.getParameterTypes();
        Object[] arguments = new Object[types.length];
        for (int i = 0; i < types.length; i++) {
            arguments[i] = types[i] == boolean.class ? (Object) Boolean.valueOf(told[i]) : (Object) Integer.decode(told[i]);
        }
        try {
            return method.invoke(x, arguments).toString();
        } catch (ReflectiveOperationException thrown) {
            return thrown.toString();
        }
    }

    private static String due(String told) {
        switch (told) {
            case "NONE":
                return String.valueOf(ChainTables.NONE);
            case "Long.MIN_VALUE":
                return String.valueOf(Long.MIN_VALUE);
            case "Integer.MIN_VALUE":
                return String.valueOf(Integer.MIN_VALUE);
            default:
                return told;
        }
    }

    /** Each kind of refusal has an example, each test its row. */
    private void judge() throws IOException {
        for (String kind : new String[] {"NONE", "-2", "-3", "Long.MIN_VALUE", "Integer.MIN_VALUE", "false", "-100"}) {
            Check.due("README.md has an example of " + kind, answers.contains(kind), true);
        }
        try (var files = Files.list(Path.of("src/test/java"))) {
            for (Path file : files.toList()) {
                String name = file.getFileName().toString().replace(".java", "");
                if (name.endsWith("Test")) {
                    Check.due("README.md tells of " + name, tests.contains(name), true);
                }
            }
        }
    }
}
