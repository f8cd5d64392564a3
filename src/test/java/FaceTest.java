import java.lang.reflect.Constructor;
import java.lang.reflect.Field;
import java.lang.reflect.Method;
import java.lang.reflect.Modifier;
import java.util.Set;
import java.util.TreeSet;

/** The public face of the document, and what of LANGUAGE.md can be seen from outside. */
final class FaceTest {
    private static final String[] FACE = {
        "about(int) int", "ask(int,int,int) void", "barrier(int,int) int", "cancel(int) boolean",
        "confirm(int,int,int) boolean", "current(int,boolean) boolean", "earliest(int) int",
        "event(int,int) int", "health(int,int,boolean) boolean", "night(boolean) boolean",
        "order(int) int", "pulse(int,int,int) void", "section(int,int,int) int", "tick() int",
        "ticks(int) int"
    };

    public static void main(String[] args) {
        theMethods();
        theConstructorAndTheConstant();
        theClassesInside();
        Check.end();
    }

    private static String signature(Method method) {
        StringBuilder text = new StringBuilder(method.getName()).append('(');
        Class<?>[] types = method.getParameterTypes();
        for (int i = 0; i < types.length; i++) {
            text.append(i == 0 ? "" : ",").append(types[i].getSimpleName());
        }
        return text.append(") ").append(method.getReturnType().getSimpleName()).toString();
    }

    private static void theMethods() {
        Set<String> seen = new TreeSet<>();
        Set<String> names = new TreeSet<>();
        for (Method method : CrossingUnit.class.getDeclaredMethods()) {
            if (!Modifier.isPrivate(method.getModifiers())) {
                seen.add(signature(method));
                names.add(method.getName());
                Check.same(method.getName(), method.getModifiers(), Modifier.PUBLIC);
            }
        }
        Check.same("the methods", seen.toString(), new TreeSet<>(Set.of(FACE)).toString());
        for (Method method : CrossingUnit.class.getDeclaredMethods()) {
            if (Modifier.isPrivate(method.getModifiers()) && names.contains(method.getName())) {
                Check.fail("a private method has the name of a public one: " + method.getName());
            }
        }
    }

    private static void theConstructorAndTheConstant() {
        Constructor<?>[] constructors = CrossingUnit.class.getDeclaredConstructors();
        Check.same("constructors", constructors.length, 1);
        Check.same("its parameters", constructors[0].getParameterCount(), 0);
        Check.yes("it is public", Modifier.isPublic(constructors[0].getModifiers()));
        Check.same("the class", CrossingUnit.class.getModifiers(), Modifier.PUBLIC | Modifier.FINAL);
        for (Field field : CrossingUnit.class.getDeclaredFields()) {
            int modifiers = field.getModifiers();
            Check.same(field.getName(), Modifier.isPrivate(modifiers) ? 0 : 1,
                    field.getName().equals("NONE") ? 1 : 0);
            if (Modifier.isStatic(modifiers)) {
                Check.yes(field.getName() + " is final", Modifier.isFinal(modifiers));
            }
        }
    }

    private static void theClassesInside() {
        for (Class<?> inside : CrossingUnit.class.getDeclaredClasses()) {
            int modifiers = inside.getModifiers();
            Check.yes(inside.getName() + " is static", Modifier.isStatic(modifiers));
            Check.no(inside.getName() + " is public", Modifier.isPublic(modifiers));
        }
    }
}
