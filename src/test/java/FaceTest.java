import java.lang.reflect.Constructor;
import java.lang.reflect.Field;
import java.lang.reflect.Method;
import java.lang.reflect.Modifier;
import java.util.ArrayList;
import java.util.List;
import java.util.TreeSet;

/** The face of the document, just so, and promise 1. */
public final class FaceTest {
    private static final String[] METHODS = {
        "put(int,int)", "take(int)", "change(int,int)", "move(int,int,int)",
        "anchor(int)", "drop(int)", "find(int)", "findAll()", "remember(int)", "set(int,int)",
        "wordAt(int)", "anchorOf(int,int)", "score(int,int)", "anchors(int)", "blockOf(int,int)",
        "wouldTake(int,int)", "safest(int)", "clearest(int)", "count(int)", "undo()",
        "type(int)", "clearText()", "fault(int)", "play()"};

    public static void main(String[] args) {
        Checks c = new Checks("FaceTest");
        constants(c);
        members(c);
        newObject(c);
        c.end();
    }

    private static void constants(Checks c) {
        c.due("INVALID_ARGUMENT", WordAnchors.INVALID_ARGUMENT, -1000001);
        c.due("NOT_POSSIBLE", WordAnchors.NOT_POSSIBLE, -1000002);
        c.due("LIMIT_REACHED", WordAnchors.LIMIT_REACHED, -1000003);
        c.due("NOT_FOUND", WordAnchors.NOT_FOUND, -1000004);
    }

    private static void members(Checks c) {
        Class<?> face = WordAnchors.class;
        c.holds("public and final", Modifier.isPublic(face.getModifiers()) && Modifier.isFinal(face.getModifiers()));
        TreeSet<String> seen = new TreeSet<>();
        for (Method m : face.getDeclaredMethods()) {
            if (Modifier.isPrivate(m.getModifiers())) {
                continue;
            }
            List<String> types = new ArrayList<>();
            for (Class<?> type : m.getParameterTypes()) {
                types.add(type.getName());
            }
            seen.add(m.getName() + "(" + String.join(",", types) + ")");
            c.holds(m.getName() + " is a public int method of the object",
                    m.getModifiers() == Modifier.PUBLIC && m.getReturnType() == int.class);
        }
        c.holds("the methods are " + seen, seen.equals(new TreeSet<>(List.of(METHODS))));
        int constants = 0;
        for (Field f : face.getDeclaredFields()) {
            if (!Modifier.isPrivate(f.getModifiers())) {
                constants++;
                c.holds(f.getName() + " is a constant",
                        f.getModifiers() == (Modifier.PUBLIC | Modifier.STATIC | Modifier.FINAL));
            }
        }
        c.due("constants", constants, 4);
        Constructor<?>[] made = face.getDeclaredConstructors();
        c.holds("one public constructor", made.length == 1 && made[0].getModifiers() == Modifier.PUBLIC
                && made[0].getParameterCount() == 0);
    }

    private static void newObject(Checks c) {
        WordAnchors x = new WordAnchors();
        for (int what = 0; what <= 5; what++) {
            c.due("count(" + what + ")", x.count(what), 0);
            c.due("anchors(" + what + ")", x.anchors(what), 0);
        }
        int[] settings = {6, 3, 1, 5, 2};
        for (int k = 0; k < settings.length; k++) {
            c.due("count(" + (20 + k) + ")", x.count(20 + k), settings[k]);
        }
        c.due("wordAt(0)", x.wordAt(0), Checks.MISSING);
        c.due("fault(0)", x.fault(0), Checks.MISSING);
        c.due("fault(1)", x.fault(1), Checks.MISSING);
        c.due("undo()", x.undo(), Checks.IMPOSSIBLE);
        Counted other = Checks.rowOf(1, 2, 3);
        other.anchor(1);
        c.due("nothing is shared", x.count(0) + x.count(1), 0);
    }
}
