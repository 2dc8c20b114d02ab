import java.io.IOException;
import java.lang.reflect.Method;
import java.lang.reflect.Modifier;
import java.nio.file.Files;
import java.nio.file.Path;
import java.util.List;
import java.util.regex.Matcher;
import java.util.regex.Pattern;

/** README.md tells every call, with as many numbers as it takes; its examples answer as it says. */
public final class ReadmeTest {
    private static final Check CHECK = new Check("readme");
    private static final Pattern TOLD = Pattern.compile("(?m)^\\| `(\\w+)\\(([^)]*)\\)` \\|");
    private static final Pattern TEXT = Pattern.compile("String text = \"([^\"]*)\";.*");
    private static final Pattern CALL = Pattern.compile("int \\w+ = gate\\.(\\w+)\\(([^)]*)\\); *// (-?\\d+)\\b.*");
    private static final String FEEDS = "    gate.feed(text.charAt(i));";

    public static void main(String[] args) throws IOException, ReflectiveOperationException {
        Path page = Path.of("README.md");
        everyCallIsTold(Files.readString(page));
        theExamples(Files.readAllLines(page));
        CHECK.end();
    }

    private static void everyCallIsTold(String page) {
        int calls = 0;
        for (Method m : HedgeGate.class.getDeclaredMethods()) {
            if (Modifier.isPublic(m.getModifiers())) {
                calls++;
                CHECK.due("rows for " + m.getName(), rowsFor(m, page), 1);
            }
        }
        CHECK.due("calls that are told", TOLD.matcher(page).results().count(), calls);
    }

    private static int rowsFor(Method m, String page) {
        Matcher told = TOLD.matcher(page);
        int rows = 0;
        while (told.find()) {
            if (told.group(1).equals(m.getName()) && numbers(told.group(2)) == m.getParameterCount()) {
                rows++;
            }
        }
        return rows;
    }

    private static int numbers(String between) {
        return between.isEmpty() ? 0 : between.split(", ").length;
    }

    private static void theExamples(List<String> lines) throws ReflectiveOperationException {
        HedgeGate gate = new HedgeGate();
        String text = "";
        int calls = 0;
        for (String line : lines) {
            Matcher told = TEXT.matcher(line);
            Matcher call = CALL.matcher(line);
            if (told.matches()) {
                text = told.group(1);
            } else if (line.equals(FEEDS)) {
                Check.feed(gate, text);
            } else if (call.matches()) {
                calls++;
                CHECK.due(line, answer(gate, call.group(1), call.group(2)), Integer.parseInt(call.group(3)));
            } else {
                CHECK.holds("'" + line + "' has an answer that can be looked up", !line.contains("= gate."));
            }
        }
        CHECK.holds("there are examples", calls > 0);
    }

    private static int answer(HedgeGate gate, String name, String between) throws ReflectiveOperationException {
        int n = numbers(between);
        Class<?>[] types = new Class<?>[n];
        Object[] given = new Object[n];
        for (int i = 0; i < n; i++) {
            types[i] = int.class;
            given[i] = Integer.parseInt(between.split(", ")[i]);
        }
        return (Integer) HedgeGate.class.getMethod(name, types).invoke(gate, given);
    }
}
