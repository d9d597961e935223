import java.lang.reflect.Constructor;
import java.lang.reflect.Field;
import java.lang.reflect.Method;
import java.lang.reflect.Modifier;
import java.util.Arrays;
import java.util.Set;
import java.util.TreeSet;
import java.util.stream.Collectors;

/** The class shows the document's face and nothing else. */
public final class FaceTest {
    private static final String[] FACE = {
        "int lot(int, int, int, int) IllegalArgumentException UnsupportedOperationException",
        "void rule(int, int, int) IllegalArgumentException",
        "void wants(int, int) IllegalArgumentException",
        "void right(int, int, boolean) IllegalArgumentException",
        "int block(int, int) NoSuchElementException IllegalArgumentException IllegalStateException UnsupportedOperationException",
        "int release(int, int) NoSuchElementException IllegalArgumentException IllegalStateException UnsupportedOperationException",
        "void quarantine(int, boolean) NoSuchElementException IllegalStateException UnsupportedOperationException",
        "int order(int, int, int) IllegalArgumentException",
        "boolean allowed(int, int, int) NoSuchElementException IllegalArgumentException",
        "int split(int) NoSuchElementException IllegalStateException UnsupportedOperationException",
        "void join(int, int) NoSuchElementException IllegalStateException UnsupportedOperationException",
        "int unit(int) NoSuchElementException IllegalStateException UnsupportedOperationException",
        "void put(int, int) NoSuchElementException IllegalArgumentException IllegalStateException",
        "int mixed(int) IllegalArgumentException",
        "void ship(int, int, int) NoSuchElementException IllegalArgumentException IllegalStateException UnsupportedOperationException",
        "int recall(int, int) NoSuchElementException IllegalArgumentException",
        "int where(int, int) NoSuchElementException IllegalArgumentException",
        "int history(int, int, int) NoSuchElementException IllegalArgumentException",
        "int told(int, int) NoSuchElementException IllegalArgumentException",
        "int day(int, int) IllegalArgumentException",
        "int date(int, int) IllegalArgumentException",
        "int count(int)",
    };

    public static void main(String[] args) {
        Set<String> shown = new TreeSet<>();
        Set<String> publicNames = new TreeSet<>();
        for (Method method : LotRules.class.getDeclaredMethods()) {
            if (!Modifier.isPrivate(method.getModifiers())) {
                shown.add(written(method));
                publicNames.add(method.getName());
                Check.holds(method + " is public and of the object",
                        method.getModifiers() == Modifier.PUBLIC);
            }
        }
        Set<String> due = new TreeSet<>(Arrays.asList(FACE));
        Check.holds("the face is " + shown + ", due is " + due, shown.equals(due));
        for (Method method : LotRules.class.getDeclaredMethods()) {
            Check.holds(method + " bears the name of a public one",
                    Modifier.isPublic(method.getModifiers()) || !publicNames.contains(method.getName()));
        }
        for (Field field : LotRules.class.getDeclaredFields()) {
            Check.holds(field + " is private", Modifier.isPrivate(field.getModifiers()));
        }
        Constructor<?>[] constructors = LotRules.class.getDeclaredConstructors();
        Check.same("constructors", constructors.length, 1);
        Check.same("the constructor's parameters", constructors[0].getParameterCount(), 0);
        Check.holds("the constructor is public", Modifier.isPublic(constructors[0].getModifiers()));
        Check.same("the class's modifiers", LotRules.class.getModifiers(), Modifier.PUBLIC | Modifier.FINAL);
        Check.end();
    }

    private static String written(Method method) {
        String parameters = Arrays.stream(method.getParameterTypes()).map(Class::getSimpleName)
                .collect(Collectors.joining(", "));
        String exceptions = Arrays.stream(method.getExceptionTypes()).map(type -> " " + type.getSimpleName())
                .collect(Collectors.joining());
        return method.getReturnType().getSimpleName() + " " + method.getName() + "(" + parameters + ")" + exceptions;
    }
}
