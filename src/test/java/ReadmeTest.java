import java.io.IOException;
import java.nio.file.Files;
import java.nio.file.Path;
import java.util.HashMap;
import java.util.List;
import java.util.Map;
import java.util.regex.Matcher;
import java.util.regex.Pattern;

/** The example of README.md: each of its calls answers the number that stands behind it. */
public final class ReadmeTest {
    private static final Path README = Path.of("README.md");
    private static final String FIRST_LINE = "Commutator x = new Commutator();";
    private static final Pattern CALL =
            Pattern.compile("(?:int (\\w+) = )?x\\.(\\w+)\\((.*?)\\); +// (-?\\d+)?.*");

    private final Caller x = new Caller();
    private final Map<String, String> names = new HashMap<>();

    private ReadmeTest() {
    }

    public static void main(String[] args) throws IOException {
        List<String> lines = Files.readAllLines(README);
        int start = lines.indexOf("```java") + 1;
        Check.same("the example begins", FIRST_LINE, start < lines.size() ? lines.get(start) : "nothing");
        ReadmeTest example = new ReadmeTest();
        int calls = 0;
        for (int i = start + 1; i < lines.size() && !lines.get(i).equals("```"); i++) {
            example.make(lines.get(i));
            calls++;
        }
        Check.holds("the example has calls", calls > 0);
        Check.end("ReadmeTest");
    }

    private void make(String line) {
        Matcher m = CALL.matcher(line);
        if (!m.matches()) {
            Check.same("a line of the example", "a call with its answer", line);
            return;
        }
        String[] arguments = m.group(3).isEmpty() ? new String[0] : m.group(3).split(", ");
        for (int i = 0; i < arguments.length; i++) {
            arguments[i] = names.getOrDefault(arguments[i], arguments[i]);
        }
        String answer = x.call(m.group(2), arguments);
        Check.same(line, m.group(4) == null ? "done" : m.group(4), answer);
        if (m.group(1) != null) {
            names.put(m.group(1), answer);
        }
    }
}
