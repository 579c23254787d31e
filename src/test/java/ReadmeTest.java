import java.io.IOException;
import java.nio.file.Files;
import java.nio.file.Path;
import java.util.ArrayList;
import java.util.List;
import java.util.regex.Matcher;
import java.util.regex.Pattern;

/** The example of README.md answers what README.md says. */
public final class ReadmeTest {
    private static final Pattern LINE =
        Pattern.compile("core\\.(\\w+)\\(([0-9A-Fx, ]*)\\);\\s+// (-?\\d+)\\b.*");

    public static void main(String[] args) throws IOException {
        WindowCore core = new WindowCore();
        int calls = 0;
        for (String line : Files.readAllLines(Path.of("README.md"))) {
            Matcher call = LINE.matcher(line);
            if (call.matches()) {
                calls++;
                Check.due(line, answer(core, call.group(1), numbers(call.group(2))), Integer.parseInt(call.group(3)));
            }
        }
        Check.due("calls of the example", calls, 10);
        Check.end();
    }

    private static List<Integer> numbers(String text) {
        List<Integer> all = new ArrayList<>();
        for (String part : text.split(",")) {
            if (!part.isBlank()) {
                all.add((int) (long) Long.decode(part.trim()));
            }
        }
        return all;
    }

    private static int answer(WindowCore core, String name, List<Integer> n) {
        switch (name) {
            case "put": return core.put(n.get(0), n.get(1));
            case "control": return core.control(n.get(0), n.get(1));
            case "register": return core.register(n.get(0), n.get(1));
            case "run": return core.run(n.get(0));
            case "look": return core.look(n.get(0));
            case "step": return core.step();
            default: throw new IllegalArgumentException(name);
        }
    }
}
