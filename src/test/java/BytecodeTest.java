import java.io.PrintWriter;
import java.io.StringWriter;
import java.util.ArrayDeque;
import java.util.ArrayList;
import java.util.Deque;
import java.util.LinkedHashMap;
import java.util.LinkedHashSet;
import java.util.List;
import java.util.Map;
import java.util.Optional;
import java.util.Set;
import java.util.regex.Matcher;
import java.util.regex.Pattern;
import java.util.spi.ToolProvider;

/** What only the compiled class tells of the rules of LANGUAGE.md: which method calls which. */
public final class BytecodeTest {
    private static final int MOST_DEEP = 8;
    private static final Set<String> LIBRARY = Set.of("java/lang/Object.<init>", "java/lang/Math.abs",
            "java/lang/Integer.bitCount");
    private static final Pattern CLASS = Pattern.compile("[a-z ]*class (\\S+).*\\{");
    private static final Pattern METHOD = Pattern.compile("  (?=\\S)(?:.* )?(?:([\\w$]+)\\(.*\\)|(\\{\\}));");
    private static final Pattern STEP = Pattern.compile(" +\\d+: (\\w+).*");
    private static final Pattern CALLED = Pattern.compile(".*// Method (?:([\\w$/]+)\\.)?\"?([\\w<>]+)\"?:.*");
    /** What would be against rule 6, and divisors: the class has a remainder by a constant alone. */
    private static final Set<String> FORBIDDEN = Set.of("athrow", "checkcast", "instanceof", "monitorenter",
            "invokedynamic", "invokeinterface", "idiv", "ldiv", "lrem");

    private static final Map<String, Set<String>> CALLS = new LinkedHashMap<>();
    private static Checks c;

    public static void main(String[] args) {
        c = new Checks("BytecodeTest");
        Optional<ToolProvider> javap = ToolProvider.findFirst("javap");
        if (javap.isEmpty()) {
            c.holds("this Java has no javap: nothing to check", true);
            c.end();
            return;
        }
        read(javap.get());
        c.holds("methods were read: " + CALLS.size(), CALLS.size() > 24);
        for (String method : CALLS.keySet()) {
            Deque<String> open = new ArrayDeque<>();
            int depth = depth(method, open);
            c.holds(method + " goes at most eight deep, it goes " + depth, depth <= MOST_DEEP);
        }
        c.end();
    }

    private static void read(ToolProvider javap) {
        List<String> names = new ArrayList<>(List.of("-c", "-p", "-cp", System.getProperty("java.class.path")));
        names.add(WordAnchors.class.getName());
        for (Class<?> inner : WordAnchors.class.getDeclaredClasses()) {
            names.add(inner.getName());
        }
        StringWriter told = new StringWriter();
        PrintWriter out = new PrintWriter(told);
        c.due("javap", javap.run(out, out, names.toArray(new String[0])), 0);
        out.flush();
        String inClass = "";
        String method = "";
        for (String line : told.toString().split("\n")) {
            Matcher one = CLASS.matcher(line);
            Matcher other = METHOD.matcher(line);
            if (one.matches()) {
                inClass = one.group(1);
            } else if (other.matches()) {
                method = inClass + "." + methodName(inClass, other.group(1));
                CALLS.putIfAbsent(method, new LinkedHashSet<>());
            } else {
                step(inClass, method, line);
            }
        }
    }

    /** Constructors bear the name of their class there, and constants have a block without a name. */
    private static String methodName(String inClass, String told) {
        if (told == null) {
            return "<clinit>";
        }
        return told.equals(inClass) ? "<init>" : told;
    }

    private static void step(String inClass, String method, String line) {
        c.holds(method + " catches nothing", !line.contains("Exception table"));
        Matcher step = STEP.matcher(line);
        if (!step.matches()) {
            return;
        }
        String name = step.group(1);
        c.holds(method + " has no " + name, !FORBIDDEN.contains(name));
        boolean makes = name.equals("new") || name.endsWith("newarray");
        c.holds(method + " makes an object or array", !makes || method.matches(".*\\.<(cl)?init>"));
        if (name.startsWith("invoke")) {
            Matcher called = CALLED.matcher(line);
            c.holds("a call is read: " + line, called.matches());
            String owner = called.group(1) == null ? inClass : called.group(1);
            CALLS.get(method).add(owner + "." + called.group(2));
        }
    }

    /** How deep calls go from a method on, itself counted; a recursion is told as very deep. */
    private static int depth(String method, Deque<String> open) {
        if (!CALLS.containsKey(method)) {
            c.holds(method + " may be called", LIBRARY.contains(method));
            return 1;
        }
        if (open.contains(method)) {
            return 1000;
        }
        open.push(method);
        int deepest = 0;
        for (String called : CALLS.get(method)) {
            deepest = Math.max(deepest, depth(called, open));
        }
        open.pop();
        return deepest + 1;
    }
}
