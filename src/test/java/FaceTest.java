import java.lang.reflect.Constructor;
import java.lang.reflect.Field;
import java.lang.reflect.Method;
import java.lang.reflect.Modifier;
import java.util.Arrays;
import java.util.Set;
import java.util.TreeSet;

/** The public face: the class, its constant, its constructor and its methods, and no other. */
public final class FaceTest {
    private static final Set<String> METHODS = Set.of(
        "public int collect(int, long)",
        "public int answer(int, long)",
        "public int fails(int, int)",
        "public int make(int)",
        "public long call(int, int, long)",
        "public int told(int)",
        "public boolean drop(int)",
        "public int numbers(int)",
        "public long again(int, int, long)");

    private static int wrong = 0;

    private static void same(String what, Object got, Object want) {
        if (!got.equals(want)) {
            wrong++;
            System.out.println(what + ": " + got + ", due is " + want);
        }
    }

    public static void main(String[] args) {
        theClass();
        itsConstant();
        itsConstructor();
        itsMethods();
        noPrivateMethodWithAPublicName();
        theClassesInside();
        System.out.println(wrong == 0 ? "the face is as due" : wrong + " things of the face are not as due");
        if (wrong != 0) {
            System.exit(1);
        }
    }

    private static boolean isShown(int modifiers) {
        return !Modifier.isPrivate(modifiers);
    }

    private static String typesOf(Class<?>[] types) {
        return String.join(", ", Arrays.stream(types).map(Class::getName).toList());
    }

    private static void theClass() {
        same("name", MainframeDesk.class.getName(), "MainframeDesk");
        same("class", Modifier.toString(MainframeDesk.class.getModifiers()), "public final");
        same("class above", MainframeDesk.class.getSuperclass(), Object.class);
        same("interfaces", MainframeDesk.class.getInterfaces().length, 0);
    }

    private static void itsConstant() {
        Set<String> shown = new TreeSet<>();
        for (Field field : MainframeDesk.class.getDeclaredFields()) {
            if (isShown(field.getModifiers()) && !field.isSynthetic()) {
                shown.add(Modifier.toString(field.getModifiers()) + " " + field.getType() + " " + field.getName());
            }
        }
        same("fields that show", shown, Set.of("public static final int NONE"));
        same("NONE", MainframeDesk.NONE, -1);
    }

    private static void itsConstructor() {
        Set<String> shown = new TreeSet<>();
        for (Constructor<?> one : MainframeDesk.class.getDeclaredConstructors()) {
            if (isShown(one.getModifiers()) && !one.isSynthetic()) {
                shown.add(Modifier.toString(one.getModifiers()) + " (" + typesOf(one.getParameterTypes()) + ")");
            }
        }
        same("constructors that show", shown, Set.of("public ()"));
    }

    private static void itsMethods() {
        Set<String> shown = new TreeSet<>();
        for (Method method : MainframeDesk.class.getDeclaredMethods()) {
            if (isShown(method.getModifiers()) && !method.isSynthetic()) {
                shown.add(Modifier.toString(method.getModifiers()) + " " + method.getReturnType() + " "
                    + method.getName() + "(" + typesOf(method.getParameterTypes()) + ")");
                same("declared exceptions of " + method.getName(), method.getExceptionTypes().length, 0);
            }
        }
        same("methods that show", shown, METHODS);
    }

    private static void noPrivateMethodWithAPublicName() {
        Set<String> names = new TreeSet<>();
        for (Method method : MainframeDesk.class.getMethods()) {
            names.add(method.getName());
        }
        for (Method method : MainframeDesk.class.getDeclaredMethods()) {
            if (Modifier.isPrivate(method.getModifiers())) {
                same("private " + method.getName() + " is named like a public one", names.contains(method.getName()), false);
            }
        }
    }

    private static void theClassesInside() {
        for (Class<?> inside : MainframeDesk.class.getDeclaredClasses()) {
            int modifiers = inside.getModifiers();
            same(inside.getName() + " is static", Modifier.isStatic(modifiers), true);
            same(inside.getName() + " shows outside", Modifier.isPublic(modifiers) || Modifier.isProtected(modifiers), false);
        }
    }
}
