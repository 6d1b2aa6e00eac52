import java.io.IOException;
import java.lang.reflect.Field;
import java.lang.reflect.Member;
import java.lang.reflect.Method;
import java.lang.reflect.Modifier;
import java.nio.file.Files;
import java.nio.file.Path;
import java.util.ArrayList;
import java.util.Arrays;
import java.util.List;
import java.util.TreeSet;
import java.util.stream.Collectors;

/** The public face of the document, and those rules of LANGUAGE.md that can be seen from the class and its text. */
public final class FaceTest {
    private static final List<String> FACE = List.of(
        "int term(int,int,int,int) throws IllegalArgumentException,IllegalStateException",
        "int claim(int) throws IllegalArgumentException,IllegalStateException",
        "int open() throws IllegalStateException", "int close() throws IllegalStateException", "boolean check()",
        "int model(int) throws IllegalArgumentException,NoSuchElementException",
        "int value(int) throws IllegalArgumentException,NoSuchElementException",
        "int reckon(int,int,int) throws IllegalArgumentException",
        "int terms()", "int claims()", "int level()", "int checks()");
    private static final String[] RULED_OUT = {
        "->", "::", "synchronized", "assert ", "finally", "static {", "protected ", "Random", "System.",
        "Thread", ".currentTime", ".nanoTime", "package "
    };
    private static final Checks checks = new Checks();

    public static void main(String[] args) throws IOException {
        face();
        classesInside();
        text(Files.readString(Path.of("src/main/java/FloatSolver.java")));
        checks.finish("FaceTest");
    }

    private static void face() {
        Class<?> solver = FloatSolver.class;
        checks.isTrue("the class is public and final",
            Modifier.isPublic(solver.getModifiers()) && Modifier.isFinal(solver.getModifiers()));
        checks.isTrue("one constructor, public and without parameters",
            solver.getDeclaredConstructors().length == 1 && solver.getConstructors().length == 1
                && solver.getConstructors()[0].getParameterCount() == 0);
        TreeSet<String> seen = new TreeSet<>();
        List<String> names = new ArrayList<>();
        for (Method method : solver.getDeclaredMethods()) {
            names.add(method.getName());
            if (!Modifier.isPrivate(method.getModifiers())) {
                checks.isTrue(method + " is public", Modifier.isPublic(method.getModifiers()));
                seen.add(described(method));
            }
        }
        checks.isTrue("the methods are those of the document: " + seen, seen.equals(new TreeSet<>(FACE)));
        checks.isTrue("no name stands twice: " + names, new TreeSet<>(names).size() == names.size());
        for (Field field : solver.getDeclaredFields()) {
            checks.isTrue(field + " is private", Modifier.isPrivate(field.getModifiers()));
        }
    }

    private static String described(Method method) {
        String thrown = names(method.getExceptionTypes());
        return method.getReturnType().getSimpleName() + " " + method.getName()
            + "(" + names(method.getParameterTypes()) + ")" + (thrown.isEmpty() ? "" : " throws " + thrown);
    }

    private static String names(Class<?>[] types) {
        return Arrays.stream(types).map(Class::getSimpleName).collect(Collectors.joining(","));
    }

    private static void classesInside() {
        List<Class<?>> classes = new ArrayList<>(List.of(FloatSolver.class.getDeclaredClasses()));
        checks.isTrue("at most twelve classes", classes.size() < 12);
        for (Class<?> inside : classes) {
            int modifiers = inside.getModifiers();
            checks.isTrue(inside + " is static and not for others", Modifier.isStatic(modifiers)
                && !Modifier.isPublic(modifiers) && !Modifier.isProtected(modifiers));
        }
        classes.add(FloatSolver.class);
        for (Class<?> each : classes) {
            staticFieldsAreFinal(each);
            checks.isTrue(each + " has some twenty fields at most", ownFields(each) <= 20);
            for (Method method : each.getDeclaredMethods()) {
                checks.isTrue(method + " has at most seven parameters", method.getParameterCount() <= 7);
            }
        }
    }

    private static void staticFieldsAreFinal(Class<?> each) {
        for (Member field : each.getDeclaredFields()) {
            boolean isStatic = Modifier.isStatic(field.getModifiers());
            checks.isTrue(field + " is final if it is static", !isStatic || Modifier.isFinal(field.getModifiers()));
        }
    }

    private static long ownFields(Class<?> each) {
        return Arrays.stream(each.getDeclaredFields()).filter(f -> !Modifier.isStatic(f.getModifiers())).count();
    }

    private static void text(String source) {
        for (String word : RULED_OUT) {
            checks.isTrue("the text has no '" + word + "'", !source.contains(word));
        }
        for (String line : source.split("\n")) {
            checks.isTrue("an import that is not the document's: " + line,
                !line.startsWith("import ") || line.equals("import java.util.NoSuchElementException;"));
        }
    }
}
