import java.io.IOException;
import java.io.UncheckedIOException;
import java.lang.reflect.Method;
import java.lang.reflect.Modifier;
import java.net.URL;
import java.net.URLClassLoader;
import java.nio.file.Files;
import java.nio.file.Path;
import java.util.ArrayList;
import java.util.List;
import java.util.function.BiConsumer;
import java.util.function.LongSupplier;
import java.util.regex.Matcher;
import java.util.regex.Pattern;
import java.util.stream.Stream;
import javax.tools.ToolProvider;

/**
 * README.md: its Java is compiled as it stands and run, and each call must answer what stands behind it. It is
 * looked for in the project's folder, which is the first argument, or else the folder that the test is run in.
 */
public final class ReadmeTest {
    private static final Pattern CALL = Pattern.compile("(?:(?:int|long) (\\w+) = )?(x\\.(\\w+)\\(.*\\));.*");
    private static final Pattern ANSWER = Pattern.compile("// (?:throws )?(-?\\d+|\\w+Exception)(?::.*)?$");

    private static Path root = Path.of("");
    private static List<String> lines = List.of();

    public static void main(String[] args) throws IOException {
        root = Path.of(args.length > 0 ? args[0] : "");
        lines = Files.readAllLines(root.resolve("README.md"));
        Check.sentence("the calls that README.md shows answer what it says they answer", ReadmeTest::calls);
        Check.sentence("README.md shows each call of the face", ReadmeTest::wholeFace);
        Check.sentence("README.md has a line for each test", ReadmeTest::allTests);
        Check.end();
    }

    /** The lines of all blocks of Java, which go on from one another. */
    private static List<String> javaLines() {
        List<String> found = new ArrayList<>();
        boolean inside = false;
        for (String line : lines) {
            if (line.startsWith("```")) {
                inside = line.equals("```java");
            } else if (inside) {
                found.add(line);
            }
        }
        return found;
    }

    private static void calls() {
        List<String> shown = javaLines();
        Path folder = compile(program(shown));
        try (URLClassLoader loader = new URLClassLoader(new URL[] {folder.toUri().toURL()})) {
            BiConsumer<Integer, LongSupplier> look = (line, call) -> look(shown.get(line), call);
            loader.loadClass("Shown").getMethod("run", BiConsumer.class).invoke(null, look);
        } catch (ReflectiveOperationException | IOException e) {
            throw new IllegalStateException(e.getCause() == null ? e : e.getCause());
        } finally {
            delete(folder);
        }
    }

    private static void look(String line, LongSupplier call) {
        Matcher answer = ANSWER.matcher(line);
        String due = answer.find() ? answer.group(1) : "no answer is shown";
        String got = Check.outcome(call::getAsLong);
        Check.same(line.strip(), due, got.startsWith("java.") ? got.substring(got.lastIndexOf('.') + 1) : got);
    }

    /** A call at a line's beginning is looked at; all else, such as loops, stands in the program as it is. */
    private static String program(List<String> shown) {
        StringBuilder text = new StringBuilder("import java.util.function.*;\npublic final class Shown {\n");
        text.append("public static void run(BiConsumer<Integer, LongSupplier> look) {\n");
        for (int i = 0; i < shown.size(); i++) {
            Matcher call = CALL.matcher(shown.get(i));
            boolean isCall = call.matches();
            if (!isCall || call.group(1) != null) {
                text.append(shown.get(i)).append('\n');
            }
            if (isCall) {
                String asked = call.group(1) != null ? call.group(1) : call.group(2);
                text.append("look.accept(").append(i).append(", () -> ").append(asked).append(");\n");
            }
        }
        return text.append("}\n}\n").toString();
    }

    private static Path compile(String program) {
        try {
            Path folder = Files.createTempDirectory("readme");
            Path file = Files.writeString(folder.resolve("Shown.java"), program);
            int code = ToolProvider.getSystemJavaCompiler().run(null, null, null, "--release", "17",
                    "-cp", System.getProperty("java.class.path"), "-d", folder.toString(), file.toString());
            Check.due("javac on README.md's Java", 0, code);
            return folder;
        } catch (IOException e) {
            throw new UncheckedIOException(e);
        }
    }

    private static void delete(Path folder) {
        try (Stream<Path> files = Files.list(folder)) {
            for (Path file : files.toList()) {
                Files.delete(file);
            }
            Files.delete(folder);
        } catch (IOException e) {
            throw new UncheckedIOException(e);
        }
    }

    private static void wholeFace() {
        List<String> shown = new ArrayList<>();
        for (String line : javaLines()) {
            Matcher call = CALL.matcher(line.strip());
            if (call.matches()) {
                shown.add(call.group(3));
            }
        }
        for (Method method : CrossTables.class.getDeclaredMethods()) {
            if (Modifier.isPublic(method.getModifiers())) {
                String name = method.getName();
                Check.same(name + " is shown", "true", "" + shown.contains(name));
                Check.same(name + " has a line", "true", "" + anyLineHas("| `" + name + "("));
            }
        }
    }

    private static void allTests() {
        try (Stream<Path> files = Files.list(root.resolve("src/test/java"))) {
            for (Path file : files.filter(Files::isRegularFile).toList()) {
                String name = file.getFileName().toString().replace(".java", "");
                Check.same(name + " has a line", "true", "" + anyLineHas("`" + name + "`"));
            }
        } catch (IOException e) {
            throw new UncheckedIOException(e);
        }
    }

    private static boolean anyLineHas(String words) {
        for (String line : lines) {
            if (line.startsWith("|") && line.contains(words)) {
                return true;
            }
        }
        return false;
    }
}
