import java.io.IOException;
import java.lang.reflect.InvocationTargetException;
import java.lang.reflect.Method;
import java.nio.file.Files;
import java.nio.file.Path;
import java.util.regex.Matcher;
import java.util.regex.Pattern;

/** Makes the calls of README.md, one behind the other; behind each the answer is the first word of its comment. */
public final class ReadmeTest extends Checks {
    private static final Pattern BLOCK = Pattern.compile("(?s)```java\n(.*?)```");
    private static final Pattern CALL = Pattern.compile("q\\.(\\w+)\\((.*)\\); +// (\\?|[-\\w]+).*");
    private static final String MADE = "Quantifold q = new Quantifold();";

    public static void main(String[] args) throws IOException, IllegalAccessException, InvocationTargetException {
        section("README.md");
        Quantifold q = null;
        int calls = 0;
        for (Matcher block = BLOCK.matcher(Files.readString(Path.of("README.md"))); block.find();) {
            for (String line : block.group(1).split("\n")) {
                Matcher call = CALL.matcher(line);
                if (line.equals(MADE)) {
                    q = new Quantifold();
                } else if (call.matches() && q != null) {
                    calls++;
                    due(line, String.valueOf(answered(q, call.group(1), call.group(2))), call.group(3));
                } else {
                    due("'" + line + "', which is no call with its answer,", "nothing", "a call");
                }
            }
        }
        due("calls that are there", calls > 50, true);
        end();
    }

    private static Object answered(Quantifold q, String name, String texts)
            throws IllegalAccessException, InvocationTargetException {
        String[] given = texts.isEmpty() ? new String[0] : texts.split(", ");
        for (Method method : Quantifold.class.getMethods()) {
            Class<?>[] types = method.getParameterTypes();
            if (method.getName().equals(name) && types.length == given.length) {
                Object[] values = new Object[given.length];
                for (int i = 0; i < given.length; i++) {
                    values[i] = value(given[i], types[i]);
                }
                return method.invoke(q, values);
            }
        }
        return "no such call";
    }

    private static Object value(String text, Class<?> type) {
        if (type == boolean.class) {
            return Boolean.valueOf(text);
        }
        if (type == char.class) {
            return text.charAt(1);
        }
        return text.startsWith("0b") ? Integer.parseInt(text.substring(2), 2) : Integer.parseInt(text);
    }
}
