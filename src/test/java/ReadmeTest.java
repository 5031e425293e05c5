import java.io.IOException;
import java.nio.file.Files;
import java.nio.file.Path;
import java.util.Map;
import java.util.regex.Matcher;
import java.util.regex.Pattern;

/** README.md: its example answers as it says there, and every call and constant is told of. */
public final class ReadmeTest {
    private static final Map<String, Integer> CONSTANTS = Map.of(
            "INVALID_ARGUMENT", WordAnchors.INVALID_ARGUMENT, "NOT_POSSIBLE", WordAnchors.NOT_POSSIBLE,
            "LIMIT_REACHED", WordAnchors.LIMIT_REACHED, "NOT_FOUND", WordAnchors.NOT_FOUND);
    private static final Pattern ASKED = Pattern.compile("x\\.(\\w+)\\((.*)\\); +// (-?\\w+).*");

    private static Checks c;

    public static void main(String[] args) throws IOException {
        c = new Checks("ReadmeTest");
        String text = Files.readString(Path.of("README.md"));
        example(text);
        for (Call call : Call.values()) {
            c.holds("it tells of " + name(call), text.contains("`" + name(call) + "`"));
        }
        CONSTANTS.forEach((name, value) -> c.holds("it tells of " + name,
                text.contains("| `" + name + "` | " + value + " | ")));
        c.end();
    }

    private static void example(String text) {
        Counted x = new Counted();
        for (String line : text.split("\n")) {
            Matcher asked = ASKED.matcher(line);
            c.holds("a line of the example is read: " + line, asked.matches() || !line.startsWith("x."));
            if (asked.matches()) {
                String due = asked.group(3);
                int want = CONSTANTS.containsKey(due) ? CONSTANTS.get(due) : Integer.parseInt(due);
                c.due(line, answer(x, asked.group(1), asked.group(2)), want);
            }
        }
        c.holds("there is an example", x.calls() > 0);
    }

    private static int answer(Counted x, String name, String told) {
        int[] values = new int[3];
        String[] arguments = told.isEmpty() ? new String[0] : told.split(", ");
        for (int k = 0; k < arguments.length; k++) {
            boolean character = arguments[k].startsWith("'");
            values[k] = character ? arguments[k].charAt(1) : Integer.parseInt(arguments[k]);
        }
        for (Call call : Call.values()) {
            if (name(call).equals(name) && call.arguments == arguments.length) {
                return call.on(x, values[0], values[1], values[2]);
            }
        }
        throw new IllegalStateException("no such call: " + name);
    }

    /** The name that a call has in the document: findAll for FIND_ALL. */
    private static String name(Call call) {
        StringBuilder name = new StringBuilder();
        for (String part : call.toString().toLowerCase().split("_")) {
            name.append(name.length() == 0 ? part : Character.toUpperCase(part.charAt(0)) + part.substring(1));
        }
        return name.toString();
    }
}
