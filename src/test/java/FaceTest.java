import java.lang.reflect.Constructor;
import java.lang.reflect.Field;
import java.lang.reflect.Member;
import java.lang.reflect.Method;
import java.lang.reflect.Modifier;
import java.util.ArrayList;
import java.util.Arrays;
import java.util.List;
import java.util.Set;
import java.util.TreeSet;

/** The document's public face, whole and nothing beside it (rule 1 of the language). */
public final class FaceTest {
    private static final String[] FACE = {
        "clear(int) IllegalArgumentException",
        "count(int) IllegalArgumentException",
        "line(long,long) IllegalArgumentException,IllegalStateException",
        "match(int,int,int) IllegalArgumentException,IndexOutOfBoundsException,IllegalStateException",
        "more(long) IllegalArgumentException,IllegalStateException",
        "out(int) IndexOutOfBoundsException",
        "parse() IllegalArgumentException",
        "ran(int) IllegalArgumentException",
        "run() IllegalStateException,IndexOutOfBoundsException,ArithmeticException",
        "script(long) IllegalArgumentException,IllegalStateException",
        "where() ",
    };

    public static void main(String[] args) {
        Class<?> type = StreamForge.class;
        Checks.equal("public and final", Modifier.toString(type.getModifiers()), "public final");
        Checks.equal("package", type.getPackageName(), "");
        Checks.equal("methods", visibleMethods(type), new TreeSet<>(Arrays.asList(FACE)));
        Constructor<?>[] constructors = type.getDeclaredConstructors();
        Checks.equal("constructors", constructors.length, 1);
        Checks.equal("the constructor", constructors[0].toString(), "public StreamForge()");
        for (Field field : type.getDeclaredFields()) {
            Checks.equal(field + " is private", isPrivate(field), true);
        }
        for (Class<?> inside : type.getDeclaredClasses()) {
            int modifiers = inside.getModifiers();
            Checks.equal(inside + " is seen", Modifier.isPublic(modifiers) || Modifier.isProtected(modifiers), false);
            Checks.equal(inside + " is static", Modifier.isStatic(modifiers), true);
            staticFieldsAreConstants(inside);
            bearsNoPublicName(inside);
        }
        staticFieldsAreConstants(type);
        Checks.end();
    }

    private static Set<String> visibleMethods(Class<?> type) {
        Set<String> visible = new TreeSet<>();
        for (Method method : type.getDeclaredMethods()) {
            if (!isPrivate(method)) {
                String returned = method.getReturnType() == int.class && Modifier.isPublic(method.getModifiers())
                        ? "" : method.toString();
                visible.add(returned + method.getName() + "(" + names(method.getParameterTypes()) + ") "
                        + names(method.getExceptionTypes()));
            }
        }
        return visible;
    }

    private static String names(Class<?>[] types) {
        List<String> names = new ArrayList<>();
        for (Class<?> type : types) {
            names.add(type.getSimpleName());
        }
        return String.join(",", names);
    }

    private static boolean isPrivate(Member member) {
        return Modifier.isPrivate(member.getModifiers());
    }

    private static void staticFieldsAreConstants(Class<?> type) {
        for (Field field : type.getDeclaredFields()) {
            if (Modifier.isStatic(field.getModifiers())) {
                Checks.equal(field + " is final", Modifier.isFinal(field.getModifiers()), true);
            }
        }
    }

    private static void bearsNoPublicName(Class<?> inside) {
        for (Method method : inside.getDeclaredMethods()) {
            for (String face : FACE) {
                Checks.equal(method + " and " + face, face.startsWith(method.getName() + "("), false);
            }
        }
    }
}
