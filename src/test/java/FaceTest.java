import java.lang.reflect.Constructor;
import java.lang.reflect.Field;
import java.lang.reflect.Method;
import java.lang.reflect.Modifier;
import java.util.Arrays;
import java.util.Set;
import java.util.TreeSet;

/** The public face of the document, and the first rule of LANGUAGE.md. */
public final class FaceTest {
    private static final String FACE = "[account(int,int,int):int, balance(int):long, "
            + "card(int,int):int, count(int):int, data(int):int, feed(int):int, inside(int,int):int, "
            + "last(int):int, make(int,int,int):int, pay(int,int,int,int):int, place():int, "
            + "queued(int):int, send(int):int, setting(int,int):int, value(int,int,int):int, wipe():int]";
    private static final String CONSTANTS = "[APPROVED=1, BAD=-3, DECLINED=2, FULL=-2, REFUSED=-1, "
            + "REMOVED=3, UNFIT=-4]";

    public static void main(String[] args) throws Exception {
        Check c = new Check();
        int modifiers = PayChain.class.getModifiers();
        c.due("public final", modifiers, Modifier.PUBLIC | Modifier.FINAL);
        methods(c);
        constants(c);
        for (Constructor<?> made : PayChain.class.getDeclaredConstructors()) {
            c.due("the constructor's parameters", made.getParameterCount(), 0);
            c.due("the constructor is public", made.getModifiers() & Modifier.PUBLIC, Modifier.PUBLIC);
        }
        inner(c);
        c.end();
    }

    private static void methods(Check c) {
        Set<String> face = new TreeSet<>();
        Set<String> names = new TreeSet<>();
        for (Method m : PayChain.class.getDeclaredMethods()) {
            if (Modifier.isPublic(m.getModifiers())) {
                StringBuilder types = new StringBuilder();
                Arrays.stream(m.getParameterTypes())
                        .forEach(t -> types.append(types.length() == 0 ? "" : ",").append(t.getName()));
                face.add(m.getName() + "(" + types + "):" + m.getReturnType().getName());
                names.add(m.getName());
            }
        }
        c.same("public methods", face.toString(), FACE);
        for (Method m : PayChain.class.getDeclaredMethods()) {
            if (!Modifier.isPublic(m.getModifiers())) {
                c.due(m + " is private", m.getModifiers() & Modifier.PRIVATE, Modifier.PRIVATE);
                c.due(m + " bears a public name", names.contains(m.getName()) ? 1 : 0, 0);
            }
        }
    }

    private static void constants(Check c) throws Exception {
        Set<String> constants = new TreeSet<>();
        for (Field f : PayChain.class.getDeclaredFields()) {
            if (Modifier.isPublic(f.getModifiers())) {
                c.due(f + " is static and final", f.getModifiers() & (Modifier.STATIC | Modifier.FINAL),
                        Modifier.STATIC | Modifier.FINAL);
                constants.add(f.getName() + "=" + f.getInt(null));
            } else {
                c.due(f + " is private", f.getModifiers() & Modifier.PRIVATE, Modifier.PRIVATE);
            }
        }
        c.same("public constants", constants.toString(), CONSTANTS);
    }

    private static void inner(Check c) {
        for (Class<?> k : PayChain.class.getDeclaredClasses()) {
            c.due(k + " is static", k.getModifiers() & Modifier.STATIC, Modifier.STATIC);
            c.due(k + " is not for all", k.getModifiers() & (Modifier.PUBLIC | Modifier.PROTECTED), 0);
            for (Field f : k.getDeclaredFields()) {
                boolean changes = Modifier.isStatic(f.getModifiers()) && !Modifier.isFinal(f.getModifiers());
                c.due(f + " is static state", changes ? 1 : 0, 0);
            }
        }
    }
}
