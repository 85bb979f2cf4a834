import java.io.IOException;
import java.lang.reflect.Method;
import java.lang.reflect.Modifier;
import java.nio.file.Files;
import java.nio.file.Path;
import java.util.Set;
import java.util.TreeSet;
import java.util.regex.Matcher;
import java.util.regex.Pattern;

/**
 * README.md says how to use the class: its calls answer as stands behind them,
 * and no call of the class is missing. It is run from the project's folder.
 */
public final class ReadmeTest {
    private static final Path README = Path.of("README.md");
    private static final Pattern BLOCK = Pattern.compile("```java\n(.*?)```", Pattern.DOTALL);
    private static final Pattern TYPED = Pattern.compile("\"(.*)\"\\.chars\\(\\)\\.forEach\\(c -> disc\\.type\\(\\(char\\) c\\)\\);");
    private static final Pattern CALL = Pattern.compile("disc\\.(\\w+)\\((.*)\\); +// (-?\\d+|[A-Z_]+)(:.*)?");

    private static final Set<String> called = new TreeSet<>();
    private static DiscArcs disc = new DiscArcs();

    private static void run(String line) throws ReflectiveOperationException {
        Matcher typed = TYPED.matcher(line);
        Matcher call = CALL.matcher(line);
        if (line.equals("DiscArcs disc = new DiscArcs();")) {
            disc = new DiscArcs();
        } else if (typed.matches()) {
            Check.type(disc, typed.group(1));
        } else if (call.matches()) {
            called.add(call.group(1));
            Check.due(line, answer(call.group(1), call.group(2)), number(call.group(3)));
        } else {
            Check.due("a line that is no call", line, "");
        }
    }

    private static long answer(String name, String arguments) throws ReflectiveOperationException {
        String[] words = arguments.isEmpty() ? new String[0] : arguments.split(", ");
        for (Method method : DiscArcs.class.getMethods()) {
            if (method.getName().equals(name) && method.getParameterCount() == words.length) {
                return ((Number) method.invoke(disc, values(method, words))).longValue();
            }
        }
        throw new NoSuchMethodException(name);
    }

    private static Object[] values(Method method, String[] words) {
        Object[] values = new Object[words.length];
        for (int i = 0; i < words.length; i++) {
            Class<?> type = method.getParameterTypes()[i];
            if (type == boolean.class) {
                values[i] = words[i].equals("true");
            } else if (type == char.class) {
                values[i] = words[i].charAt(1);
            } else {
                values[i] = Integer.parseInt(words[i]);
            }
        }
        return values;
    }

    private static long number(String word) throws ReflectiveOperationException {
        return Character.isUpperCase(word.charAt(0)) ? DiscArcs.class.getField(word).getInt(null) : Long.parseLong(word);
    }

    private static void callsAreAll() {
        Set<String> due = new TreeSet<>();
        for (Method method : DiscArcs.class.getDeclaredMethods()) {
            if (Modifier.isPublic(method.getModifiers())) {
                due.add(method.getName());
            }
        }
        Check.due("the calls that are shown", called.toString(), due.toString());
    }

    public static void main(String[] args) throws IOException, ReflectiveOperationException {
        Check.says("README.md says how to use the class");
        String readme = Files.readString(README);
        Matcher blocks = BLOCK.matcher(readme);
        while (blocks.find()) {
            for (String line : blocks.group(1).split("\n")) {
                run(line);
            }
        }
        callsAreAll();
        Check.says("The constants");
        for (String name : new String[] {"UNKNOWN", "BAD_VALUE", "FULL", "NOT_POSSIBLE", "NONE"}) {
            String row = "| `" + name + "` | " + number(name) + " |";
            Check.due("the row of " + name, readme.contains(row) ? row : "", row);
        }
        Check.end();
    }
}
