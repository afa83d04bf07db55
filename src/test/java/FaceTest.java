import java.lang.reflect.Constructor;
import java.lang.reflect.Field;
import java.lang.reflect.Member;
import java.lang.reflect.Method;
import java.lang.reflect.Modifier;
import java.util.Arrays;
import java.util.List;
import java.util.TreeSet;

/** The class has the document's public face, no other member that is not private, and no private name of the face. */
public final class FaceTest {
    private static final List<String> FACE = List.of(
        "begin(int)", "label(int,int,int,int)", "tint(int,int,int)", "exchange(int,int,int)", "copy(int)", "colours()",
        "colour(int,int)", "twins()", "image(int)", "next()", "symmetries(int)", "orbit(int,int)", "form(int,int)",
        "compare(int)", "count(int)");

    private static final Checks CHECKS = new Checks();

    public static void main(String[] args) throws NoSuchFieldException {
        CHECKS.due("modifiers of the class", GraphTwins.class.getModifiers(), Modifier.PUBLIC | Modifier.FINAL);
        methods();
        fields();
        constructors();
        inside();
        CHECKS.end();
    }

    private static boolean isOpen(Member member) {
        return !Modifier.isPrivate(member.getModifiers()) && !member.isSynthetic();
    }

    private static String written(Method method) {
        String[] types = Arrays.stream(method.getParameterTypes()).map(Class::getName).toArray(String[]::new);
        return method.getName() + "(" + String.join(",", types) + ")";
    }

    private static void methods() {
        TreeSet<String> open = new TreeSet<>();
        for (Method method : GraphTwins.class.getDeclaredMethods()) {
            if (isOpen(method)) {
                open.add(written(method));
                CHECKS.due("modifiers of " + method, method.getModifiers(), Modifier.PUBLIC);
                CHECKS.due(method + " answers an int", method.getReturnType() == int.class ? 1 : 0, 1);
            } else {
                dueOwnName(method);
            }
        }
        if (!open.equals(new TreeSet<>(FACE))) {
            CHECKS.fail("the open methods are " + open);
        }
    }

    private static void dueOwnName(Method method) {
        for (String of : FACE) {
            if (of.startsWith(method.getName() + "(")) {
                CHECKS.fail(method + " bears the name of a public method");
            }
        }
    }

    private static void fields() throws NoSuchFieldException {
        Field bad = GraphTwins.class.getField("BAD");
        CHECKS.due("modifiers of BAD", bad.getModifiers(), Modifier.PUBLIC | Modifier.STATIC | Modifier.FINAL);
        CHECKS.due("BAD is an int", bad.getType() == int.class ? 1 : 0, 1);
        CHECKS.due("BAD", GraphTwins.BAD, -1);
        for (Field field : GraphTwins.class.getDeclaredFields()) {
            if (isOpen(field) && !field.getName().equals("BAD")) {
                CHECKS.fail(field + " is not private");
            }
            if (Modifier.isStatic(field.getModifiers()) && !Modifier.isFinal(field.getModifiers())) {
                CHECKS.fail(field + " is static and not final");
            }
        }
    }

    private static void constructors() {
        Constructor<?>[] all = GraphTwins.class.getDeclaredConstructors();
        CHECKS.due("constructors", all.length, 1);
        CHECKS.due("the constructor's inputs", all[0].getParameterCount(), 0);
        CHECKS.due("the constructor is public", all[0].getModifiers(), Modifier.PUBLIC);
    }

    private static void inside() {
        for (Class<?> inner : GraphTwins.class.getDeclaredClasses()) {
            int modifiers = inner.getModifiers();
            if (!Modifier.isStatic(modifiers) || Modifier.isPublic(modifiers) || Modifier.isProtected(modifiers)) {
                CHECKS.fail(inner + " is not a static class of its own");
            }
            for (Method method : inner.getDeclaredMethods()) {
                dueOwnName(method);
            }
        }
    }
}
