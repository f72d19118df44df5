import java.io.IOException;
import java.lang.reflect.Method;
import java.nio.file.Files;
import java.nio.file.Path;
import java.util.regex.Matcher;
import java.util.regex.Pattern;

/** The run of calls that README.md tells has the answers that stand behind the calls there. */
public final class ReadmeTest {
    private static final Pattern CALL = Pattern.compile("x\\.(\\w+)\\((.*?)\\); +// (-?\\w+).*");

    private static Object[] numbers(String args) {
        if (args.isEmpty()) {
            return new Object[0];
        }
        String[] parts = args.split(", ");
        Object[] numbers = new Object[parts.length];
        for (int i = 0; i < parts.length; i++) {
            numbers[i] = Long.decode(parts[i]).intValue();
        }
        return numbers;
    }

    private static String answer(MatchTrees x, String name, Object[] args) throws ReflectiveOperationException {
        for (Method m : MatchTrees.class.getMethods()) {
            if (m.getName().equals(name) && m.getParameterCount() == args.length) {
                return String.valueOf(m.invoke(x, args));
            }
        }
        return "no such call";
    }

    public static void main(String[] args) throws IOException, ReflectiveOperationException {
        MatchTrees x = new MatchTrees();
        int calls = 0;
        for (String line : Files.readAllLines(Path.of("README.md"))) {
            if (!line.startsWith("x.")) {
                continue;
            }
            Matcher m = CALL.matcher(line);
            Given.due("readable: " + line, m.matches(), true);
            if (m.matches()) {
                Given.same(line, answer(x, m.group(1), numbers(m.group(2))), m.group(3));
                calls++;
            }
        }
        Given.due("a run of calls", calls > 20, true);
        Given.finish();
    }
}
