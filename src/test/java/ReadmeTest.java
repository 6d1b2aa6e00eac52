import java.io.ByteArrayOutputStream;
import java.io.File;
import java.io.IOException;
import java.io.PrintStream;
import java.lang.reflect.Method;
import java.lang.reflect.Modifier;
import java.net.URL;
import java.net.URLClassLoader;
import java.nio.charset.StandardCharsets;
import java.nio.file.Files;
import java.nio.file.Path;
import java.util.ArrayList;
import java.util.List;
import javax.tools.ToolProvider;

/** README.md: its example prints what it says that it prints, and it leaves no call and no test out. */
public final class ReadmeTest {
    private static final String PRINTS = "// prints: ";
    private static final Checks checks = new Checks();

    public static void main(String[] args) throws IOException, ReflectiveOperationException {
        String readme = Files.readString(Path.of("README.md"));
        example(block(readme, "```java\n"));
        calls(readme);
        tests(readme);
        checks.finish("ReadmeTest");
    }

    private static String block(String readme, String start) {
        int from = readme.indexOf(start) + start.length();
        return readme.substring(from, readme.indexOf("```", from));
    }

    private static void example(String code) throws IOException, ReflectiveOperationException {
        List<String> due = new ArrayList<>();
        for (String line : code.split("\n")) {
            if (line.contains(PRINTS)) {
                due.add(line.substring(line.indexOf(PRINTS) + PRINTS.length()));
            }
        }
        List<String> got = printed(code);
        checks.isTrue("the example says what it prints", !due.isEmpty());
        checks.isTrue("the example prints " + got + ", README.md says " + due, got.equals(due));
    }

    private static List<String> printed(String code) throws IOException, ReflectiveOperationException {
        Path folder = Files.createTempDirectory("readme");
        Path source = folder.resolve("Example.java");
        Files.writeString(source, "public class Example { public static void main(String[] args) {\n" + code + "}}\n");
        int failed = ToolProvider.getSystemJavaCompiler().run(null, System.out, System.out, "-cp",
            System.getProperty("java.class.path"), "-d", folder.toString(), source.toString());
        List<String> lines = failed == 0 ? linesOf(folder) : List.of("nothing: it does not compile");
        for (File file : folder.toFile().listFiles()) {
            Files.delete(file.toPath());
        }
        Files.delete(folder);
        return lines;
    }

    private static List<String> linesOf(Path folder) throws IOException, ReflectiveOperationException {
        PrintStream before = System.out;
        ByteArrayOutputStream bytes = new ByteArrayOutputStream();
        try (URLClassLoader loader = new URLClassLoader(new URL[] {folder.toUri().toURL()})) {
            System.setOut(new PrintStream(bytes, true, StandardCharsets.UTF_8));
            loader.loadClass("Example").getMethod("main", String[].class).invoke(null, (Object) new String[0]);
        } finally {
            System.setOut(before);
        }
        return bytes.toString(StandardCharsets.UTF_8).lines().toList();
    }

    private static void calls(String readme) {
        for (Method method : FloatSolver.class.getDeclaredMethods()) {
            if (Modifier.isPublic(method.getModifiers())) {
                checks.isTrue("README.md has the call " + method.getName(), readme.contains("`" + method.getName() + "("));
            }
        }
    }

    private static void tests(String readme) {
        for (File file : new File("src/test/java").listFiles()) {
            String name = file.getName().replace(".java", "");
            checks.isTrue("README.md tells of " + name, readme.contains("`" + name + "`"));
        }
    }
}
