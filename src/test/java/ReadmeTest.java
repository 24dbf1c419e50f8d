import java.io.IOException;
import java.lang.reflect.Method;
import java.lang.reflect.Modifier;
import java.nio.file.Files;
import java.nio.file.Path;
import java.util.HashMap;
import java.util.HashSet;
import java.util.Map;
import java.util.Set;
import java.util.regex.Matcher;
import java.util.regex.Pattern;

/** The calls that README.md shows answer as the comments behind them say, and every call is shown. */
public final class ReadmeTest {
    private static final Pattern CALL =
            Pattern.compile("(?:int (\\w+) = )?form\\.(\\w+)\\(([^)]*)\\); *// (?:(-?\\d+)\\b)?.*");
    private static final String FIRST = "FormFields form = new FormFields();";

    private final FormFields form = new FormFields();
    private final Map<String, Integer> variables = new HashMap<>();
    private final Set<String> called = new HashSet<>();

    public static void main(String[] args) throws IOException, ReflectiveOperationException {
        ReadmeTest test = new ReadmeTest();
        String readme = Files.readString(Path.of("README.md"));
        for (String line : readme.split("```(java)?\n")[1].split("\n")) {
            if (!line.isEmpty() && !line.equals(FIRST)) {
                test.call(line);
            }
        }
        for (Method one : FormFields.class.getDeclaredMethods()) {
            if (Modifier.isPublic(one.getModifiers()) && !test.called.contains(one.getName())) {
                Check.tell("README.md shows no " + one.getName());
            }
        }
        Check.end();
    }

    private void call(String line) throws ReflectiveOperationException {
        Matcher parts = CALL.matcher(line);
        Method method = parts.matches() ? method(parts.group(2)) : null;
        if (method == null) {
            Check.tell("README.md, no call with an answer: " + line);
            return;
        }
        called.add(method.getName());
        Object answer = method.invoke(form, arguments(method, parts.group(3)));
        Check.due(line + " " + parts.group(4), line + " " + answer);
        if (parts.group(1) != null) {
            variables.put(parts.group(1), (Integer) answer);
        }
    }

    private static Method method(String name) {
        for (Method one : FormFields.class.getDeclaredMethods()) {
            if (one.getName().equals(name)) {
                return one;
            }
        }
        return null;
    }

    private Object[] arguments(Method method, String written) {
        String[] each = written.isEmpty() ? new String[0] : written.split(", ");
        Object[] all = new Object[each.length];
        for (int i = 0; i < each.length; i++) {
            Class<?> type = method.getParameterTypes()[i];
            if (type == boolean.class) {
                all[i] = each[i].equals("true");
            } else if (type == long.class) {
                all[i] = (long) number(each[i]);
            } else {
                all[i] = number(each[i]);
            }
        }
        return all;
    }

    private int number(String written) {
        if (written.startsWith("'")) {
            return written.equals("'\\n'") ? '\n' : written.charAt(1);
        }
        return variables.containsKey(written) ? variables.get(written) : Integer.parseInt(written);
    }
}
