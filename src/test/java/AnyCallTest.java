import java.lang.reflect.InvocationTargetException;
import java.lang.reflect.Method;
import java.util.Arrays;
import java.util.List;
import java.util.Random;

/**
 * Calls with any arguments in any state: nothing but what the face names is thrown, and what throws changes nothing:
 * a twin that hears only the calls that do not throw answers the same to them, and shows the same at last.
 */
public final class AnyCallTest {
    private static final int OBJECTS = 1200;
    private static final int CALLS = 300;
    private static final Due due = new Due("AnyCallTest");

    private final SiteSealer x = new SiteSealer();
    private final SiteSealer twin = new SiteSealer();
    private final Random dice;

    private AnyCallTest(int seed) {
        dice = new Random(seed);
    }

    public static void main(String[] args) throws ReflectiveOperationException {
        Method[] face = SiteSealer.class.getDeclaredMethods();
        List<Method> calls = Arrays.stream(face).filter(m -> java.lang.reflect.Modifier.isPublic(m.getModifiers()))
                .sorted((a, b) -> a.getName().compareTo(b.getName())).toList();
        for (int seed = 0; seed < OBJECTS; seed++) {
            AnyCallTest test = new AnyCallTest(seed);
            for (int i = 0; i < CALLS; i++) {
                Method call = calls.get(test.dice.nextInt(calls.size()));
                test.callOnce("object " + seed + ": ", call, arguments(call, test.dice));
            }
            due.text("object " + seed + ": what is seen at last", Seen.now(test.x), Seen.now(test.twin));
        }
        due.end();
    }

    private void callOnce(String which, Method call, Object[] arguments) throws ReflectiveOperationException {
        String what = which + call.getName() + Arrays.toString(arguments);
        Object answer;
        try {
            answer = call.invoke(x, arguments);
        } catch (InvocationTargetException e) {
            boolean isNamed = Arrays.asList(call.getExceptionTypes()).contains(e.getCause().getClass());
            due.is(what + " threw " + e.getCause() + ", which it names", isNamed, true);
            return;
        }
        due.text(what, "" + call.invoke(twin, arguments), "" + answer);
    }

    private static Object[] arguments(Method call, Random dice) {
        Class<?>[] types = call.getParameterTypes();
        Object[] all = new Object[types.length];
        int[] rare = {-1, 7, 8, 31, 32, 63, 64, 255, 256, 3000, 3001, Integer.MIN_VALUE, Integer.MAX_VALUE};
        for (int i = 0; i < all.length; i++) {
            int small = dice.nextInt(30) == 0 ? rare[dice.nextInt(rare.length)] : dice.nextInt(dice.nextInt(3) == 0 ? 26 : 4);
            if (types[i] == boolean.class) {
                all[i] = dice.nextBoolean();
            } else if (types[i] == long.class) {
                all[i] = dice.nextBoolean() ? dice.nextLong() : (long) small;
            } else {
                all[i] = small;
            }
        }
        return all;
    }
}
