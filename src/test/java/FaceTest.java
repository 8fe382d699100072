import java.lang.reflect.Constructor;
import java.lang.reflect.Field;
import java.lang.reflect.Method;
import java.lang.reflect.Modifier;
import java.util.ArrayList;
import java.util.Arrays;
import java.util.Collections;
import java.util.List;

/** The public face, and rules 1 and 11 of LANGUAGE.md as far as reflection sees them. */
public final class FaceTest {
    private static final String[] FACE = {
        "alike()boolean", "code(boolean,int,int,int,int)int", "entry(boolean,int,int,int)long",
        "field(int,int,int,int)int", "left()int", "leftAt(int,int)int", "method(int,int,int,int,int)int",
        "number(int,long,boolean)int", "op(int,int,int,int)int", "pool(boolean,int)int",
        "ref(int,boolean,int,int,int)int", "run(boolean,int,int,int,int)int", "seal(long)int",
        "string(int,long,int)int", "told(boolean,int)long", "type(int)int", "wrong(boolean,int,int)int"};

    public static void main(String[] args) {
        Due due = new Due("FaceTest");
        List<String> found = new ArrayList<>();
        List<String> names = new ArrayList<>();
        for (Method m : SiteSealer.class.getDeclaredMethods()) {
            if (Modifier.isPublic(m.getModifiers())) {
                found.add(shown(m));
                names.add(m.getName());
            } else {
                due.is(m + " is private", Modifier.isPrivate(m.getModifiers()) || m.isSynthetic(), true);
            }
        }
        Collections.sort(found);
        due.is("the public methods, " + found, found.equals(Arrays.asList(FACE)), true);
        Constructor<?>[] made = SiteSealer.class.getDeclaredConstructors();
        due.is("constructors", made.length, 1);
        due.is("the constructor is public, without arguments",
                Modifier.isPublic(made[0].getModifiers()) && made[0].getParameterCount() == 0, true);
        due.is("the class is final", Modifier.isFinal(SiteSealer.class.getModifiers()), true);
        for (Field f : SiteSealer.class.getDeclaredFields()) {
            due.is(f + " is private", Modifier.isPrivate(f.getModifiers()), true);
        }
        due.is("classes inside", SiteSealer.class.getDeclaredClasses().length <= 11, true);
        for (Class<?> inside : SiteSealer.class.getDeclaredClasses()) {
            checkInside(due, inside, names);
        }
        due.end();
    }

    private static void checkInside(Due due, Class<?> inside, List<String> names) {
        due.is(inside + " is static", Modifier.isStatic(inside.getModifiers()), true);
        due.is(inside + " is not public", Modifier.isPublic(inside.getModifiers()), false);
        int fields = 0;
        for (Field f : inside.getDeclaredFields()) {
            fields += Modifier.isStatic(f.getModifiers()) ? 0 : 1;
        }
        due.is(inside + " has some twenty fields at most", fields <= 20, true);
        for (Method m : inside.getDeclaredMethods()) {
            due.is(m + " bears no public name", names.contains(m.getName()), false);
            due.is(m + " takes at most seven", m.getParameterCount() <= 7, true);
        }
    }

    private static String shown(Method m) {
        StringBuilder text = new StringBuilder(m.getName()).append('(');
        for (Class<?> p : m.getParameterTypes()) {
            text.append(text.charAt(text.length() - 1) == '(' ? "" : ",").append(p.getName());
        }
        return text.append(')').append(m.getReturnType().getName()).toString();
    }
}
