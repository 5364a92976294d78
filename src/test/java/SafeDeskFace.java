import java.lang.reflect.Constructor;
import java.lang.reflect.Field;
import java.lang.reflect.Method;
import java.lang.reflect.Modifier;
import java.util.Arrays;
import java.util.List;
import java.util.TreeSet;

/** 'The public face': all that it lists, and nothing else that is not private but the classes inside. */
public final class SafeDeskFace extends DeskChecks {
    private static final List<String> METHODS = List.of("safe(int, int, int)", "share(int, int)", "same(int, int)",
        "step(int, int, int, int)", "clear(int)", "run(int, int)", "value()", "trace(int)", "told(int, int)",
        "count(int)");

    private static String listOf(List<String> names) {
        return new TreeSet<>(names).toString();
    }

    private static String typesOf(Class<?>[] types) {
        return Arrays.stream(types).map(Class::getName).toList().toString().replace('[', '(').replace(']', ')');
    }

    private static boolean isOpen(int modifiers) {
        return !Modifier.isPrivate(modifiers);
    }

    private static void theClass() {
        says("The public face", "public final class SafeDesk");
        due("its modifiers", Modifier.PUBLIC | Modifier.FINAL, SafeDesk.class.getModifiers());
        alike("its package", "", SafeDesk.class.getPackageName());
    }

    private static void theConstants() {
        says("The public face", "public static final int BAD = -1, FULL = -2;");
        due("BAD", -1, SafeDesk.BAD);
        due("FULL", -2, SafeDesk.FULL);
        List<String> open = Arrays.stream(SafeDesk.class.getDeclaredFields())
            .filter(field -> isOpen(field.getModifiers()) && !field.isSynthetic())
            .map(Field::toString).toList();
        alike("its fields", listOf(List.of("public static final int SafeDesk.BAD",
            "public static final int SafeDesk.FULL")), listOf(open));
    }

    private static void theConstructor() {
        says("The public face", "public SafeDesk();");
        List<String> all = Arrays.stream(SafeDesk.class.getDeclaredConstructors()).map(Constructor::toString).toList();
        alike("its constructors", listOf(List.of("public SafeDesk()")), listOf(all));
    }

    private static void theMethods() {
        for (String name : METHODS) {
            says("The public face", "public int " + name.substring(0, name.indexOf('(')));
            long found = Arrays.stream(SafeDesk.class.getDeclaredMethods())
                .filter(method -> signatureOf(method).equals("public int " + name)).count();
            due("methods " + name, 1, (int) found);
        }
        says("The public face", "no other method");
        List<String> open = Arrays.stream(SafeDesk.class.getDeclaredMethods())
            .filter(method -> isOpen(method.getModifiers()) && !method.isSynthetic())
            .map(SafeDeskFace::signatureOf).toList();
        alike("its methods", listOf(METHODS.stream().map(name -> "public int " + name).toList()), listOf(open));
    }

    private static String signatureOf(Method method) {
        return Modifier.toString(method.getModifiers()) + " " + method.getReturnType() + " " + method.getName()
            + typesOf(method.getParameterTypes());
    }

    private static void theClassesInside() {
        says("The public face", "classes inside, by LANGUAGE.md 1");
        for (Class<?> inside : SafeDesk.class.getDeclaredClasses()) {
            int modifiers = inside.getModifiers();
            due(inside.getName() + " is static", 1, Modifier.isStatic(modifiers) ? 1 : 0);
            due(inside.getName() + " is not seen outside", 0,
                Modifier.isPublic(modifiers) || Modifier.isProtected(modifiers) ? 1 : 0);
        }
    }

    public static void main(String[] args) {
        theClass();
        theConstants();
        theConstructor();
        theMethods();
        theClassesInside();
        end();
    }
}
