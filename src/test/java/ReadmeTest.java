import java.io.IOException;
import java.lang.reflect.InvocationTargetException;
import java.lang.reflect.Method;
import java.lang.reflect.Modifier;
import java.nio.file.Files;
import java.nio.file.Path;
import java.util.HashMap;
import java.util.List;
import java.util.Map;
import java.util.regex.Matcher;
import java.util.regex.Pattern;

/** What README.md says: its example answers so, and each call of the face stands in its table. */
public final class ReadmeTest {
    /** A call with the answer behind it; where words stand behind it, it answers nothing. */
    private static final Pattern CALL = Pattern.compile(
            " {4}(?:int (\\w+) = )?grammar\\.(\\w+)\\((.*)\\); *// (-?\\d+|true|false)?.*");

    private final Due due = new Due();
    private final RankedGrammar grammar = new RankedGrammar();
    private final Map<String, Integer> named = new HashMap<>();

    public static void main(String[] args) throws IOException {
        List<String> lines = Files.readAllLines(Path.of("README.md"));
        ReadmeTest test = new ReadmeTest();
        int calls = 0;
        for (String line : lines) {
            if (line.matches(" {4}.*grammar\\..*")) {
                test.make(line);
                calls++;
            }
        }
        int made = calls;
        test.due.answers("the example has calls", true, () -> made > 20);
        test.eachCallHasARow(lines);
        test.due.end("ReadmeTest");
    }

    private void make(String line) {
        Matcher found = CALL.matcher(line);
        boolean readable = found.matches();
        due.answers("readable: " + line, true, () -> readable);
        if (!readable) {
            return;
        }
        Object got = Due.outcome(() -> call(found.group(2), found.group(3)));
        String want = found.group(4) == null ? "nothing" : found.group(4);
        due.answers(line.strip(), want, got::toString);
        if (found.group(1) != null && got instanceof Integer number) {
            named.put(found.group(1), number);
        }
    }

    private Object call(String name, String inBrackets) {
        String[] texts = inBrackets.isEmpty() ? new String[0] : inBrackets.split(", ");
        Object[] arguments = new Object[texts.length];
        for (int i = 0; i < texts.length; i++) {
            Integer known = named.get(texts[i]);
            arguments[i] = known == null ? Integer.valueOf(texts[i]) : known;
        }
        try {
            Object answer = methodNamed(name).invoke(grammar, arguments);
            return answer == null ? "nothing" : answer;
        } catch (IllegalAccessException | InvocationTargetException e) {
            throw new IllegalStateException(e);
        }
    }

    private static Method methodNamed(String name) {
        for (Method method : RankedGrammar.class.getDeclaredMethods()) {
            if (method.getName().equals(name) && Modifier.isPublic(method.getModifiers())) {
                return method;
            }
        }
        throw new IllegalArgumentException(name);
    }

    private void eachCallHasARow(List<String> lines) {
        for (Method method : RankedGrammar.class.getDeclaredMethods()) {
            if (Modifier.isPublic(method.getModifiers())) {
                String row = "| `" + method.getName() + "(";
                due.answers("a row for " + method.getName(), true,
                        () -> lines.stream().anyMatch(line -> line.startsWith(row)));
            }
        }
    }
}
