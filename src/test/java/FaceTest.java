import java.lang.reflect.Constructor;
import java.lang.reflect.Field;
import java.lang.reflect.Method;
import java.lang.reflect.Modifier;
import java.util.ArrayList;
import java.util.Arrays;
import java.util.Collections;
import java.util.List;

/** The public face: what the document lists, and nothing else that is not private. */
public final class FaceTest {
    private static final String[] FACE = {
        "int section(int, long, long) IllegalArgumentException UnsupportedOperationException",
        "int add(int, byte) NoSuchElementException UnsupportedOperationException",
        "byte octet(int, int) NoSuchElementException ArrayIndexOutOfBoundsException",
        "long beside(int, long) NoSuchElementException IllegalArgumentException",
        "int widths(int, int, int, int) NoSuchElementException IllegalArgumentException",
        "int run(int, int, int) NoSuchElementException IllegalArgumentException UnsupportedOperationException",
        "int key(int, int, int) NoSuchElementException IllegalArgumentException",
        "int head(long, int, int) IllegalArgumentException UnsupportedOperationException",
        "int read(long)",
        "int kind(int) IndexOutOfBoundsException",
        "long place(int, int) IndexOutOfBoundsException",
        "int revision(int, int) IndexOutOfBoundsException",
        "long told(int, int) IndexOutOfBoundsException",
        "int free(int) IndexOutOfBoundsException",
        "int trailer(int) IllegalArgumentException",
        "int value(int, int) NoSuchElementException IllegalArgumentException",
    };

    public static void main(String[] args) {
        List<String> want = new ArrayList<>(Arrays.asList(FACE));
        List<String> got = new ArrayList<>();
        List<String> names = new ArrayList<>();
        for (Method method : CrossTables.class.getDeclaredMethods()) {
            if (!Modifier.isPrivate(method.getModifiers())) {
                got.add(describe(method));
                names.add(method.getName());
            }
        }
        Collections.sort(want);
        Collections.sort(got);
        same("methods", want.toString(), got.toString());
        for (Method method : CrossTables.class.getDeclaredMethods()) {
            boolean hidden = Modifier.isPrivate(method.getModifiers());
            same("a private " + method.getName(), "false", "" + (hidden && names.contains(method.getName())));
        }
        for (Field field : CrossTables.class.getDeclaredFields()) {
            same(field.getName(), "true", "" + Modifier.isPrivate(field.getModifiers()));
        }
        Constructor<?>[] constructors = CrossTables.class.getDeclaredConstructors();
        same("constructors", "[public CrossTables()]", Arrays.toString(constructors));
        same("the class", "public final", Modifier.toString(CrossTables.class.getModifiers()));
        for (Class<?> inside : CrossTables.class.getDeclaredClasses()) {
            same(inside.getName(), "private static final", Modifier.toString(inside.getModifiers()));
        }
        Check.end();
    }

    private static String describe(Method method) {
        List<String> parameters = new ArrayList<>();
        for (Class<?> type : method.getParameterTypes()) {
            parameters.add(type.getName());
        }
        StringBuilder text = new StringBuilder();
        text.append(method.getReturnType().getName()).append(' ').append(method.getName());
        text.append('(').append(String.join(", ", parameters)).append(')');
        for (Class<?> type : method.getExceptionTypes()) {
            text.append(' ').append(type.getSimpleName());
        }
        return text.toString();
    }

    private static void same(String what, String want, String got) {
        Check.due(what, 1, want.equals(got) ? 1 : 0);
        if (!want.equals(got)) {
            System.out.println("  due is " + want + ", it is " + got);
        }
    }
}
