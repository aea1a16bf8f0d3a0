import java.lang.reflect.Method;
import java.lang.reflect.Modifier;
import java.nio.charset.StandardCharsets;
import java.nio.file.Files;
import java.nio.file.Path;
import java.util.HashSet;
import java.util.List;
import java.util.Set;
import java.util.regex.Matcher;
import java.util.regex.Pattern;
import java.util.stream.Stream;

/** README.md makes calls in one run on one object, and says what each answers: it must be so. */
public final class ReadmeTest {
    private static final String MADE = "OnlySideways x = new OnlySideways();";
    private static final Pattern TYPED =
        Pattern.compile("for \\(char c : \"([^\"]*)\"\\.toCharArray\\(\\)\\) x\\.type\\(([01]), c\\);");
    private static final Pattern CALL = Pattern.compile("x\\.(\\w+)\\(([^)]*)\\); +// (-?\\d+): .+");
    private static final Pattern REFUSAL = Pattern.compile("\\b(BAD|NOT|FULL|NULL|INDEX|CAST|STORE|SIZE) \\((-\\d+)\\)");
    private static final Due due = new Due();
    private static final Set<String> called = new HashSet<>();
    private static OnlySideways x;
    private static int calls;

    public static void main(String[] args) throws Exception {
        Path page = Path.of(System.getProperty("readme"));
        List<String> lines = Files.readAllLines(page, StandardCharsets.UTF_8);
        for (String line : lines) {
            if (line.startsWith("    ") && !line.trim().equals(".ci/run")) follow(line.trim());
        }
        due.holds("the run is within an object's 512 calls", calls > 0 && calls <= 512);
        for (Method method : OnlySideways.class.getDeclaredMethods()) {
            if (Modifier.isPublic(method.getModifiers())) {
                due.holds(method.getName() + " is called in README.md", called.contains(method.getName()));
            }
        }
        refusals(String.join(" ", lines));
        testsNamed(page.resolveSibling("tests"), String.join("\n", lines));
        due.end();
    }

    private static void follow(String line) throws Exception {
        Matcher typed = TYPED.matcher(line);
        Matcher call = CALL.matcher(line);
        if (line.equals(MADE)) {
            due.holds("one object for the whole run", x == null);
            x = new OnlySideways();
        } else if (typed.matches()) {
            Due.typeAll(x, Integer.parseInt(typed.group(2)), typed.group(1));
            called.add("type");
            calls += typed.group(1).length();
        } else if (call.matches()) {
            due.is(line, answer(call.group(1), call.group(2)), Long.parseLong(call.group(3)));
            called.add(call.group(1));
            calls++;
        } else {
            due.holds("a line that can be followed: " + line, false);
        }
    }

    private static long answer(String name, String told) throws Exception {
        String[] parts = told.isEmpty() ? new String[0] : told.split(", ");
        Class<?>[] types = new Class<?>[parts.length];
        Object[] numbers = new Object[parts.length];
        for (int i = 0; i < parts.length; i++) {
            types[i] = int.class;
            numbers[i] = number(parts[i]);
        }
        return ((Number) OnlySideways.class.getMethod(name, types).invoke(x, numbers)).longValue();
    }

    /** A number, a byte in quotes, or a sum of two numbers. */
    private static int number(String told) {
        if (told.startsWith("'")) return told.charAt(1);
        int sum = 0;
        for (String part : told.split(" \\+ ")) sum += Integer.parseInt(part);
        return sum;
    }

    private static void refusals(String text) {
        Set<String> named = new HashSet<>();
        Matcher found = REFUSAL.matcher(text);
        while (found.find()) {
            named.add(found.group(1));
            due.is("README.md: " + found.group(1), Long.parseLong(found.group(2)), refusal(found.group(1)));
        }
        due.is("README.md names each refusal", named.size(), 8);
    }

    /** What the class answers where this refusal is due. */
    private static int refusal(String name) {
        OnlySideways y = new OnlySideways();
        y.sheet(0, 0, 1);
        y.sheet(1, 1, 1);
        switch (name) {
            case "BAD":
                return y.type(2, 0);
            case "NOT":
                return y.undo(0);
            case "FULL":
                Due.typeAll(y, 0, "x".repeat(40));
                return y.type(0, 0);
            case "NULL":
                return y.lose(2);
            case "INDEX":
                return y.lay(0, 0, 1, 0);
            case "CAST":
                return y.lay(0, 1, 0, 0);
            case "STORE":
                return y.copy(0, 0, 1, 0, 1);
            default:
                return y.sheet(0, 0, -1);
        }
    }

    private static void testsNamed(Path tests, String text) throws Exception {
        try (Stream<Path> files = Files.list(tests)) {
            for (Path file : (Iterable<Path>) files::iterator) {
                String name = file.getFileName().toString();
                String kind = name.endsWith("EdgesTest.java") ? "*EdgesTest.java" : name;
                due.holds(name + " is named in README.md", !name.endsWith("Test.java") || text.contains("tests/" + kind));
            }
        }
    }
}
