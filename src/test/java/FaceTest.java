import java.lang.reflect.Constructor;
import java.lang.reflect.Field;
import java.lang.reflect.Method;
import java.lang.reflect.Modifier;
import java.util.ArrayList;
import java.util.Arrays;
import java.util.Collections;
import java.util.List;

/** The public face: what the document lists, and nothing else that is not private. */
public final class FaceTest {
    private static final String[] FACE = {
        "int section(int, long, long) IllegalArgumentException UnsupportedOperationException",
        "int add(int, byte) NoSuchElementException UnsupportedOperationException",
        "byte octet(int, int) NoSuchElementException ArrayIndexOutOfBoundsException",
        "long beside(int, long) NoSuchElementException IllegalArgumentException",
        "int widths(int, int, int, int) NoSuchElementException IllegalArgumentException",
        "int run(int, int, int) NoSuchElementException IllegalArgumentException UnsupportedOperationException",
        "int key(int, int, int) NoSuchElementException IllegalArgumentException",
        "int head(long, int, int) IllegalArgumentException UnsupportedOperationException",
        "int read(long)",
        "int kind(int) IndexOutOfBoundsException",
        "long place(int, int) IndexOutOfBoundsException",
        "int revision(int, int) IndexOutOfBoundsException",
        "long told(int, int) IndexOutOfBoundsException",
        "int free(int) IndexOutOfBoundsException",
        "int trailer(int) IllegalArgumentException",
        "int value(int, int) NoSuchElementException IllegalArgumentException",
    };

    public static void main(String[] args) {
        Check.sentence("public methods, with what they throw", FaceTest::methods);
        Check.sentence("No private method bears the name of a public one", FaceTest::privateNames);
        Check.sentence("no other member that is not private", FaceTest::otherMembers);
        Check.end();
    }

    private static void methods() {
        List<String> want = new ArrayList<>(Arrays.asList(FACE));
        List<String> got = new ArrayList<>();
        for (Method method : CrossTables.class.getDeclaredMethods()) {
            if (!Modifier.isPrivate(method.getModifiers())) {
                got.add(describe(method));
            }
        }
        Collections.sort(want);
        Collections.sort(got);
        Check.same("the face", want.toString(), got.toString());
    }

    private static void privateNames() {
        for (Method method : CrossTables.class.getDeclaredMethods()) {
            boolean hidden = Modifier.isPrivate(method.getModifiers());
            boolean named = false;
            for (String line : FACE) {
                named |= line.contains(" " + method.getName() + "(");
            }
            Check.same("a private " + method.getName(), "false", "" + (hidden && named));
        }
    }

    private static void otherMembers() {
        for (Field field : CrossTables.class.getDeclaredFields()) {
            Check.same(field.getName() + " is private", "true", "" + Modifier.isPrivate(field.getModifiers()));
        }
        Constructor<?>[] constructors = CrossTables.class.getDeclaredConstructors();
        Check.same("constructors", "[public CrossTables()]", Arrays.toString(constructors));
        Check.same("the class", "public final", Modifier.toString(CrossTables.class.getModifiers()));
        for (Class<?> inside : CrossTables.class.getDeclaredClasses()) {
            Check.same(inside.getName(), "private static final", Modifier.toString(inside.getModifiers()));
        }
    }

    private static String describe(Method method) {
        List<String> parameters = new ArrayList<>();
        for (Class<?> type : method.getParameterTypes()) {
            parameters.add(type.getName());
        }
        StringBuilder text = new StringBuilder();
        text.append(method.getReturnType().getName()).append(' ').append(method.getName());
        text.append('(').append(String.join(", ", parameters)).append(')');
        for (Class<?> type : method.getExceptionTypes()) {
            text.append(' ').append(type.getSimpleName());
        }
        return text.toString();
    }
}
