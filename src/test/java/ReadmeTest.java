import java.io.IOException;
import java.nio.file.Files;
import java.nio.file.Path;
import java.util.List;
import java.util.regex.Matcher;
import java.util.regex.Pattern;

/** The examples of README.md: every call in them whose comment begins with a number answers that number. */
public final class ReadmeTest {
    private static final Pattern CALL = Pattern.compile("machine\\.(\\w+)\\(([-\\d, ]*)\\);(?: *// (-?\\d+).*)?");
    private static final String NEW = "LazyMachine machine = new LazyMachine();";

    public static void main(String[] args) throws IOException {
        List<String> lines = Files.readAllLines(Path.of("README.md"));
        LazyMachine machine = null;
        int examples = 0;
        boolean inside = false;
        for (String line : lines) {
            if (line.startsWith("```")) {
                inside = line.equals("```java");
            } else if (inside && line.equals(NEW)) {
                machine = new LazyMachine();
                examples++;
            } else if (inside) {
                answers(machine, line);
            }
        }
        Check.due("examples", 2, examples);
        Check.end();
    }

    private static void answers(LazyMachine machine, String line) {
        Matcher call = CALL.matcher(line);
        if (!call.matches()) {
            Check.due("a line that is no call: " + line, 1, 0);
            return;
        }
        int got = Check.outcome(() -> made(machine, call.group(1), numbers(call.group(2))));
        Check.due(line, call.group(3) == null ? 0 : Integer.parseInt(call.group(3)), got);
    }

    private static int[] numbers(String text) {
        String[] words = text.isBlank() ? new String[0] : text.split(", ");
        int[] numbers = new int[words.length];
        for (int i = 0; i < words.length; i++) {
            numbers[i] = Integer.parseInt(words[i]);
        }
        return numbers;
    }

    private static int made(LazyMachine machine, String name, int[] with) {
        return switch (name) {
            case "put" -> machine.put(with[0], with[1]);
            case "load" -> machine.load();
            case "restart" -> Check.restart(machine);
            case "run" -> machine.run(with[0]);
            case "result" -> machine.result(with[0]);
            case "into" -> machine.into(with[0]);
            case "apply" -> machine.apply(with[0]);
            case "count" -> machine.count(with[0]);
            default -> throw new AssertionError("no such call: " + name);
        };
    }
}
