import java.lang.reflect.Constructor;
import java.lang.reflect.Field;
import java.lang.reflect.Method;
import java.lang.reflect.Modifier;
import java.util.Arrays;
import java.util.TreeSet;

/** The public face: the class, its constructor and its ten methods, and nothing else to be seen. */
public final class FaceTest {
    private static final String[] FACE = {
        "int insert(int, int, int, int) throws IllegalArgumentException IllegalStateException",
        "void set(int, int, int, boolean) throws IllegalArgumentException IllegalStateException NoSuchElementException",
        "void remove(int) throws IllegalStateException NoSuchElementException",
        "int removeAll(int, int) throws IllegalArgumentException IllegalStateException",
        "int find(int, int) throws IllegalArgumentException",
        "int value(int, int) throws IllegalArgumentException NoSuchElementException",
        "void mark(int) throws IllegalStateException",
        "void back(int) throws NoSuchElementException",
        "void release(int) throws NoSuchElementException",
        "int count(int) throws",
    };

    public static void main(String[] args) {
        Class<?> shelf = UndoShelf.class;
        Check.same("public final", Modifier.PUBLIC | Modifier.FINAL, shelf.getModifiers());
        Check.same("methods", new TreeSet<>(Arrays.asList(FACE)), methodsSeen(shelf));
        Check.same("constructors", 1, shelf.getDeclaredConstructors().length);
        Constructor<?> made = shelf.getDeclaredConstructors()[0];
        Check.same("constructor is public", Modifier.PUBLIC, made.getModifiers());
        Check.same("constructor's parameters", 0, made.getParameterCount());
        Check.same("constructor's exceptions", 0, made.getExceptionTypes().length);
        for (Field field : shelf.getDeclaredFields()) {
            Check.same("field " + field.getName() + " is private", true, Modifier.isPrivate(field.getModifiers()));
        }
        Check.finish();
    }

    private static TreeSet<String> methodsSeen(Class<?> shelf) {
        TreeSet<String> seen = new TreeSet<>();
        for (Method method : shelf.getDeclaredMethods()) {
            if (!Modifier.isPrivate(method.getModifiers())) {
                Check.same(method.getName() + " is public only", Modifier.PUBLIC, method.getModifiers());
                seen.add(told(method));
            }
        }
        return seen;
    }

    private static String told(Method method) {
        TreeSet<String> thrown = new TreeSet<>();
        for (Class<?> type : method.getExceptionTypes()) {
            thrown.add(type.getSimpleName());
        }
        StringBuilder text = new StringBuilder();
        text.append(method.getReturnType()).append(' ').append(method.getName()).append('(');
        for (int i = 0; i < method.getParameterCount(); i++) {
            text.append(i == 0 ? "" : ", ").append(method.getParameterTypes()[i]);
        }
        text.append(") throws");
        for (String name : thrown) {
            text.append(' ').append(name);
        }
        return text.toString();
    }
}
