import java.io.IOException;
import java.lang.reflect.Method;
import java.nio.file.Files;
import java.nio.file.Path;
import java.util.List;
import java.util.regex.Matcher;
import java.util.regex.Pattern;

/** README.md tells of each call of the face, and its examples, one run on one object, answer as it says. */
final class ReadmeTest {
    private static final Pattern CALL = Pattern.compile("x\\.(\\w+)\\((.*?)\\);\\s*// (-?\\d+).*");
    private static final Pattern TEXT = Pattern.compile("tell\\(x, \"(.*)\"\\);\\s*// (-?\\d+).*");
    private static final int MOST_CALLS = 512;

    public static void main(String[] args) throws IOException, ReflectiveOperationException {
        List<String> lines = Files.readAllLines(Path.of("README.md"));
        runExamples(lines);
        String page = String.join("\n", lines);
        for (Method m : BearerKin.class.getMethods()) {
            if (m.getDeclaringClass() == BearerKin.class) {
                Check.due("README.md tells of " + m.getName(), page.contains(m.getName() + "(") ? 1 : 0, 1);
                Check.due("README.md has an example of " + m.getName(), page.contains("x." + m.getName() + "(") ? 1 : 0, 1);
            }
        }
        for (String word : "512 calls|NONE|.ci/run|-2|-3|-4|-5|-6|-7|-11 to -14|-31 to -34".split("\\|")) {
            Check.due("README.md tells of " + word, page.contains(word) ? 1 : 0, 1);
        }
        Check.end("ReadmeTest");
    }

    /** Only lines that begin as an example's; those with another form within the examples would go unseen. */
    private static void runExamples(List<String> lines) throws ReflectiveOperationException {
        BearerKin x = new BearerKin();
        int calls = 0;
        for (String line : lines) {
            Matcher call = CALL.matcher(line);
            Matcher text = TEXT.matcher(line);
            if (call.matches()) {
                Check.due(line, answer(x, call.group(1), call.group(2)), Long.parseLong(call.group(3)));
                calls++;
            } else if (text.matches()) {
                Check.due(line, Check.tell(x, text.group(1)), Long.parseLong(text.group(2)));
                calls += text.group(1).length() / 20 + 2;
            } else {
                boolean unread = line.startsWith("x.") || line.startsWith("tell(");
                Check.due("an example that can be read: " + line, unread ? 1 : 0, 0);
            }
        }
        Check.due("there are examples", calls > 0 && calls <= MOST_CALLS ? 1 : 0, 1);
    }

    private static long answer(BearerKin x, String name, String told) throws ReflectiveOperationException {
        String[] words = told.isEmpty() ? new String[0] : told.split(", ");
        for (Method m : BearerKin.class.getMethods()) {
            if (m.getName().equals(name) && m.getParameterCount() == words.length) {
                Object[] arguments = new Object[words.length];
                for (int i = 0; i < words.length; i++) {
                    long number = Long.decode(words[i]);
                    boolean wide = m.getParameterTypes()[i] == long.class;
                    if (wide) {
                        arguments[i] = number;
                    } else {
                        arguments[i] = (int) number;
                    }
                }
                return ((Number) m.invoke(x, arguments)).longValue();
            }
        }
        Check.due("there is such a call: " + name, 0, 1);
        return BearerKin.NONE;
    }
}
