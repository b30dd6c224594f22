import java.io.IOException;
import java.lang.reflect.Method;
import java.lang.reflect.Modifier;
import java.nio.file.Files;
import java.nio.file.Path;
import java.util.List;
import java.util.Set;
import java.util.TreeSet;
import java.util.regex.Matcher;
import java.util.regex.Pattern;

/** What README.md shows is what the program does. */
public final class ReadmeTest {
    private static final Pattern CALL =
        Pattern.compile("belt\\.(\\w+)\\((.*)\\);\\s+// (-?\\d+|true|false)(:.*)?");
    private static final Pattern KIND =
        Pattern.compile("\\| (\\d) [A-Z]+ *\\| (\\d) +\\| (yes|no) +\\| ([\\d, ]+)\\|");

    public static void main(String[] args) throws IOException, ReflectiveOperationException {
        List<String> lines = Files.readAllLines(Path.of("README.md"));
        shownCalls(lines);
        tableOfKinds(lines);
        Due.end();
    }

    private static void shownCalls(List<String> lines) throws ReflectiveOperationException {
        Due.about("the calls shown");
        JamRules belt = new JamRules();
        Set<String> shown = new TreeSet<>();
        for (String line : lines) {
            Matcher call = CALL.matcher(line);
            if (line.startsWith("belt.")) {
                Due.is("a call and its answer: " + line, true, call.matches());
            }
            if (call.matches()) {
                shown.add(call.group(1));
                Due.is(line, number(call.group(3)), answer(belt, call.group(1), call.group(2)));
            }
        }
        for (Method method : JamRules.class.getDeclaredMethods()) {
            if (Modifier.isPublic(method.getModifiers())) {
                Due.is(method.getName() + " is shown", true, shown.contains(method.getName()));
            }
        }
    }

    private static long answer(JamRules belt, String name, String given) throws ReflectiveOperationException {
        String[] words = given.isEmpty() ? new String[0] : given.split(", ");
        for (Method method : JamRules.class.getMethods()) {
            if (method.getName().equals(name) && method.getParameterCount() == words.length) {
                return number(String.valueOf(method.invoke(belt, arguments(method, words))));
            }
        }
        throw new NoSuchMethodException(name);
    }

    private static Object[] arguments(Method method, String[] words) {
        Object[] all = new Object[words.length];
        for (int i = 0; i < words.length; i++) {
            Class<?> type = method.getParameterTypes()[i];
            if (type == boolean.class) {
                all[i] = Boolean.valueOf(words[i]);
            } else if (type == long.class) {
                all[i] = Long.valueOf(words[i]);
            } else {
                all[i] = Integer.valueOf(words[i]);
            }
        }
        return all;
    }

    private static long number(String word) {
        if (word.equals("true") || word.equals("false")) {
            return word.equals("true") ? 1L : 0L;
        }
        return Long.parseLong(word);
    }

    private static void tableOfKinds(List<String> lines) {
        int kinds = 0;
        for (String line : lines) {
            Matcher row = KIND.matcher(line);
            if (row.matches()) {
                kinds++;
                Due.about("the table's row of kind " + kinds);
                Due.is("kind", kinds, number(row.group(1)));
                rowOfKind(kinds, number(row.group(2)), row.group(3).equals("yes"), row.group(4).trim().split(", "));
            }
        }
        Due.about("the table");
        Due.is("kinds", 6, kinds);
    }

    private static void rowOfKind(int kind, long rank, boolean stops, String[] steps) {
        JamRules belt = new JamRules();
        belt.plant(kind, 0);
        Due.is("rank", rank, belt.alarm(0, 1));
        Due.is("goes on", !stops, belt.goesOn());
        for (String step : steps) {
            Due.is("is not cleared before step " + step, 1, belt.alarm(0, 0));
            Due.is("step " + step, 1, belt.step(1, (int) number(step)));
        }
        Due.is("is cleared", -1, belt.alarm(0, 0));
    }
}
