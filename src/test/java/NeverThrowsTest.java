import java.lang.reflect.InvocationTargetException;
import java.lang.reflect.Method;
import java.lang.reflect.Modifier;
import java.util.ArrayList;
import java.util.Comparator;
import java.util.List;
import java.util.Random;

/**
 * Rule 7 of LANGUAGE.md: no call throws, for any arguments in any state. That binds objects behind
 * their 512th call, too, whose answers are free; up to there each answer is a number from 0 on or
 * one of the four constants.
 */
public final class NeverThrowsTest {
    private static final int OBJECTS = 40;
    private static final int CALLS = 5000;
    private static final int PROMISED = 512;
    private static final int[] FAR = {Integer.MIN_VALUE, Integer.MIN_VALUE + 1, -1000001, -100, -41, -2, -1, 41, 59,
        60, 61, 99, 100, 126, 127, 1000001, Integer.MAX_VALUE - 39, Integer.MAX_VALUE - 1, Integer.MAX_VALUE};

    private static Checks c;
    private static Random random;

    public static void main(String[] args) throws IllegalAccessException {
        c = new Checks("NeverThrowsTest");
        List<Method> calls = new ArrayList<>();
        for (Method call : WordAnchors.class.getDeclaredMethods()) {
            if (Modifier.isPublic(call.getModifiers())) {
                calls.add(call);
            }
        }
        calls.sort(Comparator.comparing(Method::getName));
        c.due("calls of the face", calls.size(), Call.values().length);
        for (int k = 0; k < OBJECTS; k++) {
            int seed = k;
            random = new Random(seed);
            List<Method> some = new ArrayList<>(calls);
            // Without clearText a text gets full, with a fault in it mostly.
            some.removeIf(call -> seed % 2 == 1 && call.getName().equals("clearText"));
            ask(new WordAnchors(), some, 2 + seed % 7);
        }
        c.end();
    }

    /** Asks one object; of so many arguments one is far from any range. */
    private static void ask(WordAnchors x, List<Method> calls, int far) throws IllegalAccessException {
        for (int k = 1; k <= CALLS; k++) {
            Method call = calls.get(random.nextInt(calls.size()));
            Object[] arguments = new Object[call.getParameterCount()];
            for (int a = 0; a < arguments.length; a++) {
                arguments[a] = random.nextInt(far) == 0 ? FAR[random.nextInt(FAR.length)] : argument(call, a);
            }
            String told = "call " + k + ": " + call.getName() + List.of(arguments);
            try {
                int answer = (Integer) call.invoke(x, arguments);
                c.holds(told + " answers 0 or more or an error, it was " + answer, k > PROMISED || answer >= 0
                        || answer <= WordAnchors.INVALID_ARGUMENT && answer >= WordAnchors.NOT_FOUND);
            } catch (InvocationTargetException thrown) {
                c.holds(told + " throws nothing, it threw " + thrown.getCause(), false);
            }
        }
    }

    /** Words come more often than they go, and edits are typed more often than other texts. */
    private static int argument(Method call, int index) {
        if (call.getName().equals("type")) {
            String text = "+0,1;-0;=1,2;>0,1,2;>2,3,0;";
            return text.charAt(random.nextInt(text.length()));
        }
        boolean edge = call.getName().equals("take") && random.nextInt(3) > 0;
        return edge ? 40 : random.nextInt(random.nextBoolean() ? 3 : 21 + 20 * index);
    }
}
