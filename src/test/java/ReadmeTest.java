import java.io.IOException;
import java.lang.reflect.InvocationTargetException;
import java.lang.reflect.Method;
import java.lang.reflect.Modifier;
import java.nio.file.Files;
import java.nio.file.Path;
import java.util.List;
import java.util.regex.Matcher;
import java.util.regex.Pattern;

/** What README.md tells is what the program does: each call of its example answers what stands behind it. */
public final class ReadmeTest {
    private static final String MAKES = "LanternWalk walk = new LanternWalk();";
    private static final Pattern CALL = Pattern.compile("walk\\.(\\w+)\\(([-0-9, ]*)\\);\\s+// (throws )?([-.\\w]+)");
    private static final Check CHECK = new Check();

    public static void main(String[] args) throws IOException, IllegalAccessException {
        List<String> page = Files.readAllLines(Path.of("README.md"));
        example(page);
        everyCallIsNamed(String.join("\n", page));
        CHECK.end();
    }

    private static void example(List<String> page) throws IllegalAccessException {
        int begin = page.indexOf("```java");
        CHECK.due("whether there is an example", begin >= 0, true);
        CHECK.due("its first line", page.get(begin + 1), MAKES);
        LanternWalk walk = new LanternWalk();
        int calls = 0;
        for (int i = begin + 2; !page.get(i).equals("```"); i++) {
            String line = page.get(i);
            Matcher call = CALL.matcher(line);
            if (call.lookingAt()) {
                CHECK.due(line, answerOf(walk, call.group(1), call.group(2)), call.group(4));
                calls++;
            } else {
                CHECK.due("a line that is no call", line, "");
            }
        }
        CHECK.due("whether it makes calls", calls > 0, true);
    }

    private static String answerOf(LanternWalk walk, String name, String numbers) throws IllegalAccessException {
        String[] told = numbers.isEmpty() ? new String[0] : numbers.split(", ");
        Object[] given = new Object[told.length];
        for (int i = 0; i < told.length; i++) {
            given[i] = Integer.valueOf(told[i]);
        }
        for (Method method : LanternWalk.class.getMethods()) {
            if (method.getName().equals(name) && method.getParameterCount() == given.length) {
                try {
                    return String.valueOf(method.invoke(walk, given));
                } catch (InvocationTargetException e) {
                    return e.getCause().getClass().getSimpleName();
                }
            }
        }
        return "that there is no such call";
    }

    private static void everyCallIsNamed(String page) {
        for (Method method : LanternWalk.class.getDeclaredMethods()) {
            if (Modifier.isPublic(method.getModifiers())) {
                CHECK.due("whether the page names " + method.getName(), page.contains("| `" + method.getName() + "("),
                        true);
            }
        }
    }
}
