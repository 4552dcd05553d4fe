import java.lang.reflect.Constructor;
import java.lang.reflect.Field;
import java.lang.reflect.Method;
import java.lang.reflect.Modifier;
import java.util.Arrays;
import java.util.Set;
import java.util.TreeSet;
import java.util.stream.Collectors;

/** The public face, and nothing that can be seen beside it. */
public final class FaceTest {
    private static final String[] FACE = {
        "int send(int, int, boolean, boolean) throws IllegalArgumentException, IllegalStateException",
        "int span(long, long) throws IllegalArgumentException, IllegalStateException",
        "int acknowledge(int, int) throws IllegalArgumentException, IllegalStateException",
        "int tick()",
        "void discard(int) throws IllegalArgumentException, IllegalStateException",
        "void confirm()",
        "void anxious(boolean)",
        "int next(int, boolean) throws IllegalArgumentException",
        "int state(int, int) throws IllegalArgumentException",
        "boolean came(int, long, boolean) throws IllegalArgumentException, IllegalStateException",
        "boolean due(int) throws IllegalArgumentException",
        "int written(int) throws IllegalArgumentException, IllegalStateException",
        "long range(int, int, boolean) throws IllegalArgumentException, NoSuchElementException",
        "int look(int) throws NoSuchElementException",
        "long space(int, int) throws IllegalArgumentException, NoSuchElementException",
    };

    public static void main(String[] args) {
        Class<?> book = AckBook.class;
        Check.same("public and final", book.getModifiers(), Modifier.PUBLIC | Modifier.FINAL);
        Set<String> seen = new TreeSet<>();
        Set<String> names = new TreeSet<>();
        for (Method method : book.getDeclaredMethods()) {
            if (!Modifier.isPrivate(method.getModifiers())) {
                seen.add(told(method));
                names.add(method.getName());
                Check.same(method + " is public alone", method.getModifiers(), Modifier.PUBLIC);
            }
        }
        Set<String> wanted = new TreeSet<>(Arrays.asList(FACE));
        if (!seen.equals(wanted)) {
            Check.tell("the face is " + seen + ", due is " + wanted);
        }
        for (Constructor<?> constructor : book.getDeclaredConstructors()) {
            Check.same("a constructor's parameters", constructor.getParameterCount(), 0);
            Check.same("a constructor is public", constructor.getModifiers(), Modifier.PUBLIC);
        }
        privateNames(book, names);
        Check.end();
    }

    private static String told(Method method) {
        return method.getReturnType() + " " + method.getName() + "(" + names(method.getParameterTypes()) + ")"
                + (method.getExceptionTypes().length == 0 ? "" : " throws " + names(method.getExceptionTypes()));
    }

    private static String names(Class<?>[] types) {
        return Arrays.stream(types).map(Class::getSimpleName).collect(Collectors.joining(", "));
    }

    private static void privateNames(Class<?> book, Set<String> names) {
        for (Field field : book.getDeclaredFields()) {
            Check.same(field + " is private", Modifier.isPrivate(field.getModifiers()), true);
            boolean isStatic = Modifier.isStatic(field.getModifiers());
            Check.same(field + " is no static state", !isStatic || Modifier.isFinal(field.getModifiers()), true);
        }
        for (Method method : book.getDeclaredMethods()) {
            boolean isPrivate = Modifier.isPrivate(method.getModifiers());
            Check.same(method + " has a name of its own", isPrivate && names.contains(method.getName()), false);
        }
        for (Class<?> inside : book.getDeclaredClasses()) {
            Check.same(inside + " is static", Modifier.isStatic(inside.getModifiers()), true);
            Check.same(inside + " is not public", Modifier.isPublic(inside.getModifiers()), false);
            for (Method method : inside.getDeclaredMethods()) {
                Check.same(method + " has a name of its own", names.contains(method.getName()), false);
            }
        }
    }
}
