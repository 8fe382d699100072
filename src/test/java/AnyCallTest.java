import java.lang.reflect.InvocationTargetException;
import java.lang.reflect.Method;
import java.util.Arrays;
import java.util.List;
import java.util.Random;

/** Calls with any arguments in any state: nothing but what the face names is thrown, and what throws changes nothing. */
public final class AnyCallTest {
    private static final int OBJECTS = 400;
    private static final Due due = new Due("AnyCallTest");

    public static void main(String[] args) throws IllegalAccessException {
        Method[] face = SiteSealer.class.getDeclaredMethods();
        List<Method> calls = Arrays.stream(face).filter(m -> java.lang.reflect.Modifier.isPublic(m.getModifiers()))
                .sorted((a, b) -> a.getName().compareTo(b.getName())).toList();
        for (int seed = 0; seed < OBJECTS; seed++) {
            Random dice = new Random(seed);
            SiteSealer x = new SiteSealer();
            for (int i = 0; i < 1500; i++) {
                Method call = calls.get(dice.nextInt(calls.size()));
                callOnce(x, call, arguments(call, dice), seed);
            }
        }
        due.end();
    }

    private static void callOnce(SiteSealer x, Method call, Object[] arguments, int seed) throws IllegalAccessException {
        String before = seed % 40 == 0 ? seen(x) : null;
        String what = "object " + seed + ": " + call.getName() + Arrays.toString(arguments);
        try {
            call.invoke(x, arguments);
            due.is(what, 0, 0);
        } catch (InvocationTargetException e) {
            boolean isNamed = Arrays.asList(call.getExceptionTypes()).contains(e.getCause().getClass());
            due.is(what + " threw " + e.getCause() + ", which it names", isNamed, true);
            if (before != null) {
                due.is(what + " threw and changed nothing", seen(x).equals(before), true);
            }
        }
    }

    /** All that a caller can see without changing anything. */
    private static String seen(SiteSealer x) {
        StringBuilder text = new StringBuilder().append(x.alike()).append(x.left());
        for (int s = 0; s < 2; s++) {
            boolean sealed = s == 1;
            text.append(Ops.rows(x, sealed));
            for (int c = 0; c < 8; c++) {
                try {
                    text.append(' ').append(x.pool(sealed, c)).append(x.entry(sealed, c, x.pool(sealed, c) - 1, 1));
                    for (int m = 0; m < 6; m++) {
                        text.append(' ').append(x.wrong(sealed, c, m)).append(x.code(sealed, c, m, 0, 0));
                    }
                } catch (RuntimeException e) {
                    text.append(e.getClass().getSimpleName());
                }
            }
        }
        return text.toString();
    }

    private static Object[] arguments(Method call, Random dice) {
        Class<?>[] types = call.getParameterTypes();
        Object[] all = new Object[types.length];
        int[] rare = {-1, 7, 8, 31, 32, 63, 64, 255, 256, 3000, 3001, Integer.MIN_VALUE, Integer.MAX_VALUE};
        for (int i = 0; i < all.length; i++) {
            int small = dice.nextInt(30) == 0 ? rare[dice.nextInt(rare.length)] : dice.nextInt(dice.nextInt(3) == 0 ? 26 : 4);
            if (types[i] == boolean.class) {
                all[i] = dice.nextBoolean();
            } else if (types[i] == long.class) {
                all[i] = dice.nextBoolean() ? dice.nextLong() : (long) small;
            } else {
                all[i] = small;
            }
        }
        return all;
    }
}
