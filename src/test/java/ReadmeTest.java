import java.lang.reflect.Method;
import java.lang.reflect.Modifier;
import java.nio.file.Files;
import java.nio.file.Path;
import java.util.Set;
import java.util.TreeSet;
import java.util.regex.Matcher;
import java.util.regex.Pattern;

/** The lines of README.md that call the class, in their order on one object, with the answers written behind them. */
public final class ReadmeTest {
    private static final Pattern TEXT = Pattern.compile("^String text = \"([^\"]*)\";$");
    private static final Pattern CALL = Pattern.compile("^x\\.(\\w+)\\(([^)]*)\\);\\s+// (-?\\d+)\\b.*$");

    public static void main(String[] args) throws Exception {
        Due due = new Due("ReadmeTest");
        String readme = Files.readString(Path.of("README.md"));
        ChanceRuns x = new ChanceRuns();
        Set<String> untold = publicMethods();
        for (String line : readme.split("\n")) {
            Matcher text = TEXT.matcher(line);
            if (text.matches()) {
                due.is("bytes of the text", Due.feed(x, text.group(1)), text.group(1).length());
                due.is("the same text line by line", Due.model(new ChanceRuns(), blockOfText(readme)), 6);
            }
            Matcher call = CALL.matcher(line);
            due.is("read: " + line, line.startsWith("x.") ? 1 : 0, call.matches() ? 1 : 0);
            if (call.matches()) {
                due.is(line, answer(x, call.group(1), call.group(2)), Long.parseLong(call.group(3)));
                untold.remove(call.group(1));
            }
        }
        due.is("not told of: " + untold, untold.size(), 0);
        due.end();
    }

    private static Set<String> publicMethods() {
        Set<String> names = new TreeSet<>();
        for (Method m : ChanceRuns.class.getDeclaredMethods()) {
            if (Modifier.isPublic(m.getModifiers())) {
                names.add(m.getName());
            }
        }
        return names;
    }

    private static String blockOfText(String readme) {
        int from = readme.indexOf("```text\n") + "```text\n".length();
        return readme.substring(from, readme.indexOf("```", from));
    }

    private static long answer(ChanceRuns x, String name, String words) throws Exception {
        for (Method m : ChanceRuns.class.getDeclaredMethods()) {
            if (m.getName().equals(name) && Modifier.isPublic(m.getModifiers())) {
                return ((Number) m.invoke(x, arguments(m.getParameterTypes(), words))).longValue();
            }
        }
        throw new IllegalStateException("no method " + name);
    }

    private static Object[] arguments(Class<?>[] types, String words) {
        String[] parts = words.isEmpty() ? new String[0] : words.split(", ");
        Object[] made = new Object[parts.length];
        for (int k = 0; k < parts.length; k++) {
            long number = Long.decode(parts[k].replace("L", ""));
            if (types[k] == long.class) {
                made[k] = number;
            } else {
                made[k] = (int) number;
            }
        }
        return made;
    }
}
