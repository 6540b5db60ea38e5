import java.io.IOException;
import java.lang.reflect.InvocationTargetException;
import java.lang.reflect.Method;
import java.lang.reflect.Modifier;
import java.nio.file.Files;
import java.nio.file.Path;
import java.util.List;
import java.util.regex.Matcher;
import java.util.regex.Pattern;

/** The example of README.md answers as README.md says, and README.md names every call and every test. */
public final class ReadmeTest {
    private static final Pattern PUT = Pattern.compile("put\\(x, \"(.*)\"\\);");
    private static final Pattern CALL = Pattern.compile("x\\.(\\w+)\\((.*)\\); +// (-?\\d+): .*");

    public static void main(String[] args) throws IOException, ReflectiveOperationException {
        List<String> lines = Files.readAllLines(Path.of("README.md"));
        CombedOut x = new CombedOut();
        int calls = 0;
        boolean inExample = false;
        for (String line : lines) {
            inExample = inExample ? !line.equals("```") : line.startsWith("CombedOut x = ");
            Matcher put = PUT.matcher(line);
            Matcher call = CALL.matcher(line);
            if (!inExample || line.startsWith("CombedOut x = ")) {
                continue;
            }
            if (put.matches()) {
                Check.feed(x, put.group(1));
            } else if (call.matches()) {
                calls++;
                Check.due(line, answer(x, call.group(1), call.group(2)), Long.parseLong(call.group(3)));
            } else {
                Check.due("a line of the example that can be run: " + line, false, true);
            }
        }
        Check.due("the example was found", calls > 10, true);
        String text = String.join("\n", lines);
        for (Method m : CombedOut.class.getDeclaredMethods()) {
            if (Modifier.isPublic(m.getModifiers())) {
                Check.due(m.getName() + " is named", text.contains("`" + m.getName() + "`"), true);
            }
        }
        namesTests(text);
        Check.finish();
    }

    private static void namesTests(String text) throws IOException {
        try (var files = Files.list(Path.of("src/test/java"))) {
            files.map(file -> file.getFileName().toString().replace(".java", "")).filter(name -> name.endsWith("Test"))
                .forEach(name -> Check.due(name + " is named",
                    name.endsWith("EdgesTest") || text.contains("`" + name + "`"), true));
        }
    }

    private static long answer(CombedOut x, String name, String written) throws ReflectiveOperationException {
        String[] numbers = written.isEmpty() ? new String[0] : written.split(", ");
        Object[] arguments = new Object[numbers.length];
        Class<?>[] types = new Class<?>[numbers.length];
        for (int i = 0; i < numbers.length; i++) {
            arguments[i] = Integer.valueOf(numbers[i]);
            types[i] = int.class;
        }
        try {
            Object got = CombedOut.class.getMethod(name, types).invoke(x, arguments);
            return got instanceof Boolean yes ? (yes ? 1 : 0) : ((Integer) got).longValue();
        } catch (InvocationTargetException e) {
            return Check.THROWS;
        }
    }
}
