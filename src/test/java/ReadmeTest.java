import java.lang.reflect.Method;
import java.lang.reflect.Modifier;
import java.nio.charset.StandardCharsets;
import java.nio.file.Files;
import java.nio.file.Path;
import java.util.Map;
import java.util.TreeMap;
import java.util.regex.Matcher;
import java.util.regex.Pattern;

/** The calls that README.md shows answer what it says behind them, and it shows every call of the class. */
public final class ReadmeTest extends Checks {
    private static final Pattern CALL = Pattern.compile("    x\\.(\\w+)\\(([^)]*)\\);\\s+// (-?\\d+|true|false|NONE|NOTHING)\\b.*");

    public static void main(String[] args) throws Exception {
        Map<String, Method> calls = new TreeMap<>();
        for (Method method : ClashFree.class.getDeclaredMethods()) {
            if (Modifier.isPublic(method.getModifiers())) {
                calls.put(method.getName(), method);
            }
        }
        Map<String, Method> unseen = new TreeMap<>(calls);
        ClashFree x = new ClashFree();
        for (String line : Files.readString(Path.of("README.md"), StandardCharsets.UTF_8).split("\n")) {
            if (!line.startsWith("    x.")) {
                continue;
            }
            Matcher parts = CALL.matcher(line);
            if (!parts.matches() || !calls.containsKey(parts.group(1))) {
                fail("no call with its answer: " + line);
                continue;
            }
            due(line.trim(), answer(x, calls.get(parts.group(1)), parts.group(2)), number(parts.group(3)));
            unseen.remove(parts.group(1));
        }
        due("calls that README.md does not show: " + unseen.keySet(), unseen.size(), 0);
        finish();
    }

    private static long answer(ClashFree x, Method call, String arguments) throws Exception {
        String[] texts = arguments.split(", ");
        Object[] values = new Object[texts.length];
        for (int i = 0; i < texts.length; i++) {
            Class<?> type = call.getParameterTypes()[i];
            long number = number(texts[i].replace("L", ""));
            if (type == boolean.class) {
                values[i] = number == 1;
            } else if (type == long.class) {
                values[i] = number;
            } else {
                values[i] = (int) number;
            }
        }
        Object told = call.invoke(x, values);
        return told instanceof Boolean ? number(told.toString()) : ((Number) told).longValue();
    }

    private static long number(String text) {
        switch (text) {
            case "true": return 1;
            case "false": return 0;
            case "NONE": return ClashFree.NONE;
            case "NOTHING": return ClashFree.NOTHING;
            default: return Long.decode(text);
        }
    }
}
