import java.io.IOException;
import java.lang.management.ManagementFactory;
import java.lang.reflect.Executable;
import java.lang.reflect.Field;
import java.lang.reflect.Method;
import java.lang.reflect.Modifier;
import java.nio.file.Files;
import java.nio.file.Path;
import java.util.ArrayList;
import java.util.List;
import java.util.regex.Matcher;
import java.util.regex.Pattern;

/**
 * The rules of LANGUAGE.md, as far as the source and reflection show them. The source is looked for in the
 * project's folder, which is the first argument, or else the folder that the test is run in.
 */
public final class LanguageTest {
    private static final List<String> LIBRARY = List.of("java.util.ArrayList", "java.util.Arrays",
            "java.util.Iterator", "java.util.List", "java.util.NoSuchElementException");
    /** Those of rule 6, and the one that promise 4 names. */
    private static final List<String> THROWN = List.of("IllegalStateException", "IllegalArgumentException",
            "IndexOutOfBoundsException", "ArithmeticException", "UnsupportedOperationException",
            "NoSuchElementException", "RuntimeException", "ArrayIndexOutOfBoundsException");
    private static final String[] NOT_USED = {"\\bpackage\\b", "->", "::", "\\btry\\b", "\\bcatch\\b",
        "\\bfinally\\b", "\\bsynchronized\\b", "\\bassert\\b", "\\bvolatile\\b", "\\bThread\\b", "\\bSystem\\.(?!arraycopy)",
        "\\bMath\\.random\\b", "\\w+Exact\\(", "\\bstatic\\s*\\{", "\\bdouble\\b", "\\bfloat\\b", "\\bjava\\.(?!util\\.)",
        "\\bequals\\b", "\\bhashCode\\b", "\\btoString\\b"};
    private static final int MOST_PARAMETERS = 7;
    private static final int MOST_LINES = 60;
    private static final int MOST_CLASSES = 12;
    private static final int MOST_FIELDS = 20;

    /** The source without its comments, and with nothing in its texts. */
    private static String code = "";

    public static void main(String[] args) throws IOException {
        Path root = Path.of(args.length > 0 ? args[0] : "");
        String source = Files.readString(root.resolve("src/main/java/CrossTables.java"));
        code = source.replaceAll("(?s)/\\*.*?\\*/", "").replaceAll("//.*", "").replaceAll("\"[^\"\n]*\"", "\"\"");
        Check.sentence("rule 1: no private method bears the name of a public one", LanguageTest::names);
        Check.sentence("rule 2: the classes inside are private and static", LanguageTest::classesInside);
        Check.sentence("rules 3 and 5: the types of the fields, and static ones are constants", LanguageTest::fields);
        Check.sentence("rule 4: only the library that it lists", LanguageTest::library);
        Check.sentence("rules 2, 4, 6 and 13: what is not used", LanguageTest::notUsed);
        Check.sentence("rule 6: throw new E(\"a written text\"), none in a constructor", LanguageTest::thrown);
        Check.sentence("rule 11: parameters, lines, classes, fields", LanguageTest::sizes);
        Check.sentence("rule 12: a reading and its questions make no object", LanguageTest::room);
        Check.end();
    }

    private static List<Class<?>> classes() {
        List<Class<?>> all = new ArrayList<>();
        all.add(CrossTables.class);
        for (int i = 0; i < all.size(); i++) {
            all.addAll(List.of(all.get(i).getDeclaredClasses()));
        }
        return all;
    }

    private static void names() {
        List<String> face = new ArrayList<>();
        for (Method method : CrossTables.class.getDeclaredMethods()) {
            if (Modifier.isPublic(method.getModifiers())) {
                face.add(method.getName());
            }
        }
        for (Class<?> type : classes()) {
            for (Method method : type.getDeclaredMethods()) {
                boolean hidden = !Modifier.isPublic(method.getModifiers());
                Check.same(type + " " + method.getName(), "false", "" + (hidden && face.contains(method.getName())));
            }
        }
    }

    private static void classesInside() {
        for (Class<?> type : classes()) {
            if (type != CrossTables.class) {
                int modifiers = type.getModifiers();
                Check.same(type + " is private", "true", "" + Modifier.isPrivate(modifiers));
                Check.same(type + " is static", "true", "" + Modifier.isStatic(modifiers));
            }
        }
    }

    private static void fields() {
        for (Class<?> type : classes()) {
            for (Field field : type.getDeclaredFields()) {
                boolean constant = Modifier.isStatic(field.getModifiers());
                Check.same(field + " is of a type of rule 3", "true", "" + isAllowed(field.getType()));
                Check.same(field + ", if static, is final", "true",
                        "" + (!constant || Modifier.isFinal(field.getModifiers())));
                Check.same(field + ", if static, is a number", "true", "" + (!constant || field.getType().isPrimitive()));
            }
        }
    }

    private static boolean isAllowed(Class<?> type) {
        Class<?> part = type.isArray() ? type.getComponentType() : type;
        return part.isPrimitive() || classes().contains(part);
    }

    private static void library() {
        Matcher found = Pattern.compile("(?m)^import (.*);").matcher(code);
        while (found.find()) {
            Check.same("import " + found.group(1), "true", "" + LIBRARY.contains(found.group(1)));
        }
    }

    private static void notUsed() {
        for (String words : NOT_USED) {
            Check.same(words, "false", "" + Pattern.compile(words).matcher(code).find());
        }
    }

    private static void thrown() {
        Matcher found = Pattern.compile("\\bthrow\\b([^;]*);").matcher(code);
        Pattern form = Pattern.compile(" new (\\w+)\\((\"\")?\\)");
        while (found.find()) {
            Matcher made = form.matcher(found.group(1));
            Check.same("throw" + found.group(1), "true", "" + (made.matches() && THROWN.contains(made.group(1))));
        }
        for (Body body : bodies()) {
            boolean constructor = body.head.matches("\\s*(public|private) \\w+\\(.*");
            Check.same(body.head.strip(), "false", "" + (constructor && body.text.contains("throw new")));
        }
    }

    private static void sizes() {
        Check.same("classes", "true", "" + (classes().size() <= MOST_CLASSES));
        int callableCount = 0;
        for (Class<?> type : classes()) {
            List<Executable> callables = new ArrayList<>(List.of(type.getDeclaredMethods()));
            callables.addAll(List.of(type.getDeclaredConstructors()));
            callableCount += callables.size();
            for (Executable callable : callables) {
                Check.same(callable.toString(), "true", "" + (callable.getParameterCount() <= MOST_PARAMETERS));
            }
            long own = List.of(type.getDeclaredFields()).stream().filter(f -> !Modifier.isStatic(f.getModifiers())).count();
            Check.same("fields of " + type, "true", "" + (own <= MOST_FIELDS));
        }
        Check.due("bodies found in the source", callableCount, bodies().size());
        for (Body body : bodies()) {
            Check.same("lines of " + body.head.strip(), "true", "" + (body.text.lines().count() <= MOST_LINES));
        }
    }

    /** A method or constructor: its first line, and all of its lines. */
    private record Body(String head, String text) {
    }

    private static List<Body> bodies() {
        List<Body> found = new ArrayList<>();
        Matcher body = Pattern.compile("(?ms)^( +)(?:public|private)[^;={]*\\([^;={]*\\{\n.*?^\\1\\}\n").matcher(code);
        while (body.find()) {
            found.add(new Body(body.group().lines().findFirst().orElse(""), body.group()));
        }
        return found;
    }

    /** An object has 16 bytes or more, so one for each of the readings would be seen. */
    private static void room() {
        CrossTables x = States.some();
        com.sun.management.ThreadMXBean threads =
                (com.sun.management.ThreadMXBean) ManagementFactory.getThreadMXBean();
        int readings = 20;
        askAll(x, 1);
        long before = threads.getCurrentThreadAllocatedBytes();
        long middle = threads.getCurrentThreadAllocatedBytes();
        askAll(x, readings);
        long after = threads.getCurrentThreadAllocatedBytes();
        long made = after - middle - (middle - before);
        Check.same("bytes made: " + made, "true", "" + (made < readings * 16L));
    }

    private static void askAll(CrossTables x, int times) {
        for (int i = 0; i < times; i++) {
            x.read(100);
            x.kind(0);
            x.place(0, 0);
            x.revision(0, -1);
            x.revision(0, 0);
            x.told(-1, 0);
            x.free(-1);
            x.free(0);
            x.trailer(0);
            x.value(0, 0);
        }
    }
}
