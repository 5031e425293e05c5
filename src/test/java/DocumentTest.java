import java.io.IOException;
import java.nio.file.Files;
import java.nio.file.Path;
import java.util.ArrayList;
import java.util.List;
import java.util.function.ToIntFunction;
import java.util.regex.Matcher;
import java.util.regex.Pattern;

/** What stands in the document itself - its face, headings, constants, ranges - against the class. */
public final class DocumentTest {
    private static Checks c;
    private static String document;
    private static List<String> source;

    public static void main(String[] args) throws IOException {
        c = new Checks("DocumentTest");
        document = Files.readString(Path.of("../shared/DOC.md"));
        source = Files.readAllLines(Path.of(args.length > 0 ? args[0] : "src/main/java/WordAnchors.java"));
        face();
        headings();
        promises();
        constants();
        settings();
        limits();
        c.end();
    }

    /** The groups of all places of the document that are of a form. */
    private static List<String[]> all(String form) {
        Matcher found = Pattern.compile(form).matcher(document);
        List<String[]> groups = new ArrayList<>();
        while (found.find()) {
            String[] one = new String[found.groupCount() + 1];
            for (int k = 0; k < one.length; k++) {
                one[k] = found.group(k);
            }
            groups.add(one);
        }
        return groups;
    }

    private static int number(String form) {
        List<String[]> found = all(form);
        c.due("in the document: " + form, found.size(), 1);
        return found.isEmpty() ? 0 : Integer.parseInt(found.get(0)[1]);
    }

    private static List<String> publicLines() {
        List<String> lines = new ArrayList<>();
        for (String line : source) {
            if (line.startsWith("public ") || line.startsWith("    public ")) {
                boolean body = line.endsWith(" {") && !line.contains(" class ");
                lines.add(body ? line.substring(0, line.length() - 2) + ";" : line);
            }
        }
        return lines;
    }

    private static void face() {
        List<String[]> blocks = all("(?s)```java\n(.*?)\n\\}\n```");
        c.due("faces in the document", blocks.size(), 1);
        List<String> due = List.of(blocks.get(0)[1].split("\n"));
        List<String> got = publicLines();
        c.due("lines of the face", got.size(), due.size());
        for (int k = 0; k < Math.min(due.size(), got.size()); k++) {
            c.holds("'" + got.get(k) + "' is '" + due.get(k) + "'", got.get(k).equals(due.get(k)));
        }
    }

    /** Each heading stands ahead of just those calls that the document names for it. */
    private static void headings() {
        List<String> due = new ArrayList<>();
        for (String[] heading : all("Ahead of the calls (.*?) the interface says: (---- .*?)\\.")) {
            due.add(heading[2]);
            due.addAll(List.of(heading[1].replace("`", "").split(", ")));
        }
        List<String> got = new ArrayList<>();
        for (String line : source) {
            Matcher call = Pattern.compile("    public int (\\w+)\\(.*").matcher(line);
            if (line.startsWith("    // ----")) {
                got.add(line.substring(7));
            } else if (call.matches()) {
                got.add(call.group(1));
            }
        }
        c.holds("headings and calls are " + due + ", they were " + got, due.size() > 24 && got.equals(due));
    }

    private static void promises() {
        List<String[]> promises = all("## Promise (\\d+): (.*)\n\n`(.*?)`:");
        List<String> face = publicLines();
        c.due("promises", promises.size(), 25);
        for (int k = 0; k < promises.size(); k++) {
            String line = "    public " + promises.get(k)[3] + ";";
            c.due("number of '" + promises.get(k)[2] + "'", Integer.parseInt(promises.get(k)[1]), k + 1);
            c.holds("'" + line + "' comes next", face.indexOf(line) == k + 5);
        }
    }

    private static void constants() {
        List<String[]> constants = all("`(\\w+) = (-\\d+)`: ");
        c.due("constants", constants.size(), 4);
        int[] values = {WordAnchors.INVALID_ARGUMENT, WordAnchors.NOT_POSSIBLE, WordAnchors.LIMIT_REACHED,
            WordAnchors.NOT_FOUND};
        String[] names = {"INVALID_ARGUMENT", "NOT_POSSIBLE", "LIMIT_REACHED", "NOT_FOUND"};
        for (int k = 0; k < constants.size(); k++) {
            c.holds("constant " + names[k], names[k].equals(constants.get(k)[1]));
            c.due(names[k], values[k], Integer.parseInt(constants.get(k)[2]));
        }
    }

    private static void settings() {
        List<String[]> settings = all("(\\d) (?:the|of each) [^(]*\\((\\d+) to (\\d+); (\\d+)\\)");
        c.due("settings", settings.size(), 5);
        for (int k = 0; k < settings.size(); k++) {
            int least = Integer.parseInt(settings.get(k)[2]);
            int greatest = Integer.parseInt(settings.get(k)[3]);
            int first = Integer.parseInt(settings.get(k)[4]);
            Counted x = new Counted();
            String name = "setting " + k;
            c.due("number of " + name, Integer.parseInt(settings.get(k)[1]), k);
            c.due(name + " at first", x.count(20 + k), first);
            c.due(name + " below its range", x.set(k, least - 1), Checks.INVALID);
            c.due(name + " above its range", x.set(k, greatest + 1), Checks.INVALID);
            for (int value = least; value <= greatest; value++) {
                c.due(name + ": what it was", x.set(k, value), value == least ? first : value - 1);
                c.due(name + ": what it is", x.count(20 + k), value);
            }
        }
    }

    /** A call that can be made so often, and then returns an error. */
    private static void limit(String name, Counted x, int most, ToIntFunction<Face> call, int error) {
        for (int k = 0; k < most; k++) {
            c.holds(name + " " + k, call.applyAsInt(x) >= 0);
        }
        c.due(name + " once more", call.applyAsInt(x), error);
    }

    private static void limits() {
        int words = number("The row has at most (\\d+) words");
        limit("put", new Counted(), words, x -> x.put(0, 1), Checks.LIMIT);
        limit("take", Checks.rowOfSize(words), words, x -> x.take(0), Checks.INVALID);
        int greatest = number("A word is a number from 0 to (\\d+)\\.");
        c.due("the greatest word", new Counted().put(0, greatest), 1);
        c.due("a greater one", new Counted().put(0, greatest + 1), Checks.INVALID);
        int anchors = number("There are at most (\\d+) anchors");
        limit("anchor", Checks.rowOf(1), anchors, x -> x.anchor(0), Checks.LIMIT);
        int characters = number("There is a text of at most (\\d+) characters");
        limit("type", new Counted(), characters, x -> x.type(';'), Checks.LIMIT);
        int states = number("A history of at most (\\d+) states");
        limit("undo", Checks.rowOfSize(states), states, x -> x.undo(), Checks.IMPOSSIBLE);
        limit("undo after more", Checks.rowOfSize(states + 1), states, x -> x.undo(), Checks.IMPOSSIBLE);
    }
}
