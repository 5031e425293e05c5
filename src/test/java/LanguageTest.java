import java.io.IOException;
import java.lang.reflect.Field;
import java.lang.reflect.Method;
import java.lang.reflect.Modifier;
import java.nio.file.Files;
import java.nio.file.Path;
import java.util.HashSet;
import java.util.List;
import java.util.Set;
import java.util.regex.Matcher;
import java.util.regex.Pattern;

/** What can be told of the rules of LANGUAGE.md from the class's text and its members. */
public final class LanguageTest {
    private static final Set<String> FORBIDDEN = Set.of("throw", "throws", "try", "catch", "finally",
            "synchronized", "assert", "import", "package", "native", "volatile", "transient", "protected",
            "instanceof", "yield", "goto", "float", "double", "System", "Object", "Thread");
    private static final Set<String> LIBRARY = Set.of("Math", "Integer");

    public static void main(String[] args) throws IOException {
        Checks c = new Checks("LanguageTest");
        Path source = Path.of(args.length > 0 ? args[0] : "src/main/java/WordAnchors.java");
        String text = Files.readString(source);
        c.holds("all signs are from 1 to 127", text.chars().allMatch(sign -> sign > 0 && sign < 128));
        String code = withoutComments(text);
        words(c, code);
        methodLengths(c, code);
        objectsMade(c, code);
        members(c);
        c.end();
    }

    private static String withoutComments(String text) {
        return text.replaceAll("(?s)/\\*.*?\\*/", "").replaceAll("//[^\n]*", "").replaceAll("'[^']*'", "' '");
    }

    private static void words(Checks c, String code) {
        Set<String> own = new HashSet<>(List.of("WordAnchors"));
        for (Class<?> inner : WordAnchors.class.getDeclaredClasses()) {
            own.add(inner.getSimpleName());
        }
        Matcher word = Pattern.compile("[A-Za-z_]\\w*").matcher(code);
        while (word.find()) {
            String found = word.group();
            c.holds("no word " + found, !FORBIDDEN.contains(found));
            boolean typeName = Character.isUpperCase(found.charAt(0)) && !found.equals(found.toUpperCase());
            c.holds(found + " may be used", !typeName || own.contains(found) || LIBRARY.contains(found));
        }
        c.holds("no lambda, method reference, annotation or text",
                !code.contains("->") && !code.contains("::") && !code.contains("@") && !code.contains("\""));
    }

    private static void methodLengths(Checks c, String code) {
        int start = -1;
        String[] lines = code.split("\n");
        for (int k = 0; k < lines.length; k++) {
            if (lines[k].matches("( {4}| {8})\\w.*\\) \\{")) {
                start = k;
            } else if (start >= 0 && lines[k].matches("( {4}| {8})\\}")) {
                c.holds("a method has at most sixty lines: line " + (start + 1), k - start < 60);
                start = -1;
            }
        }
    }

    /** Objects are made by fields and constructors alone, so a call makes none. */
    private static void objectsMade(Checks c, String code) {
        for (String line : code.split("\n")) {
            if (line.matches(".*\\bnew\\b.*")) {
                c.holds("made once: " + line.trim(), line.matches(" {4,8}(private )?final .* = new .*;")
                        || line.matches(" {16}\\w+\\[k\\] = new (Anchor|State)\\(\\);"));
            }
        }
    }

    private static void members(Checks c) {
        Set<String> face = new HashSet<>();
        for (Method m : WordAnchors.class.getDeclaredMethods()) {
            if (Modifier.isPublic(m.getModifiers())) {
                face.add(m.getName());
            }
        }
        Class<?>[] inner = WordAnchors.class.getDeclaredClasses();
        c.holds("at most twelve classes", inner.length + 1 <= 12);
        shape(c, WordAnchors.class, Set.of());
        for (Class<?> one : inner) {
            c.holds(one.getSimpleName() + " is private and static",
                    (one.getModifiers() & (Modifier.PRIVATE | Modifier.STATIC)) == (Modifier.PRIVATE | Modifier.STATIC));
            shape(c, one, face);
        }
    }

    private static void shape(Checks c, Class<?> one, Set<String> names) {
        int fields = 0;
        for (Field f : one.getDeclaredFields()) {
            if (!Modifier.isStatic(f.getModifiers())) {
                fields++;
            } else {
                c.holds(f.getName() + " is final", Modifier.isFinal(f.getModifiers()));
            }
        }
        c.holds(one.getSimpleName() + " has at most twenty fields", fields <= 20);
        for (Method m : one.getDeclaredMethods()) {
            c.holds(m.getName() + " has at most seven parameters", m.getParameterCount() <= 7);
            c.holds(one.getSimpleName() + "." + m.getName() + " bears no name of the face",
                    !names.contains(m.getName()));
        }
    }
}
