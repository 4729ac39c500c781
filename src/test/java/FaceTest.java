import java.io.IOException;
import java.lang.reflect.Constructor;
import java.lang.reflect.Field;
import java.lang.reflect.Method;
import java.lang.reflect.Modifier;
import java.nio.file.Files;
import java.nio.file.Path;
import java.util.ArrayList;
import java.util.List;
import java.util.TreeSet;

/** The public face is that of the document, and there is nothing else to be seen. */
public final class FaceTest {
    private static final Check check = new Check();

    private static final String[] METHODS = {
        "void officer(int, int) IndexOutOfBoundsException IllegalArgumentException",
        "int version(int, int, int, int, boolean, int) IndexOutOfBoundsException IllegalArgumentException IllegalStateException",
        "void fiscal(int) IllegalArgumentException IllegalStateException",
        "void open(int, int) IndexOutOfBoundsException IllegalStateException",
        "void close(int, int) IndexOutOfBoundsException IllegalArgumentException IllegalStateException",
        "void left(int, int) IndexOutOfBoundsException IllegalArgumentException IllegalStateException",
        "int file(int, int, long, int, int, int, int) IndexOutOfBoundsException IllegalArgumentException IllegalStateException",
        "void hold(int, int, int, int, int, int) IndexOutOfBoundsException IllegalArgumentException IllegalStateException",
        "void lift(int) IndexOutOfBoundsException IllegalStateException",
        "int covered(int) IndexOutOfBoundsException",
        "int due(int) IndexOutOfBoundsException",
        "int record(int, int) IndexOutOfBoundsException IllegalArgumentException",
        "long read(int) IndexOutOfBoundsException IllegalStateException",
        "int find(int, int, int, int) IllegalArgumentException",
        "int draw(int, int) IndexOutOfBoundsException IllegalArgumentException IllegalStateException",
        "int listed(int, int) IndexOutOfBoundsException",
        "int approve(int, int) IndexOutOfBoundsException IllegalStateException",
        "int strike(int, int) IndexOutOfBoundsException IllegalStateException",
        "int carry(int, int, int) IndexOutOfBoundsException IllegalArgumentException IllegalStateException",
        "int count(int) IllegalArgumentException",
        "int act(int, int) IndexOutOfBoundsException IllegalArgumentException",
        "long link(int) IndexOutOfBoundsException",
        "void spoil(int, int, int) IndexOutOfBoundsException IllegalArgumentException",
        "int broken()",
        "int later(int, int, int) IllegalArgumentException",
    };

    public static void main(String[] args) throws IOException {
        constants();
        classAndConstructor();
        methods();
        importsNothing();
        check.end();
    }

    private static void constants() {
        check.is(-1, RecordsOffice.NONE);
        for (Field field : RecordsOffice.class.getDeclaredFields()) {
            boolean isFace = field.getName().equals("NONE");
            check.is(isFace ? Modifier.PUBLIC : Modifier.PRIVATE, access(field.getModifiers()));
            check.is(1, !Modifier.isStatic(field.getModifiers()) || Modifier.isFinal(field.getModifiers()) ? 1 : 0);
        }
    }

    private static void classAndConstructor() {
        int modifiers = RecordsOffice.class.getModifiers();
        check.is(Modifier.PUBLIC | Modifier.FINAL, modifiers & ~Modifier.STRICT);
        Constructor<?>[] all = RecordsOffice.class.getDeclaredConstructors();
        check.is(1, all.length);
        check.is(0, all[0].getParameterCount());
        check.is(Modifier.PUBLIC, access(all[0].getModifiers()));
    }

    private static void methods() {
        TreeSet<String> seen = new TreeSet<>();
        TreeSet<String> names = new TreeSet<>();
        List<Method> hidden = new ArrayList<>();
        for (Method method : RecordsOffice.class.getDeclaredMethods()) {
            if (Modifier.isPrivate(method.getModifiers())) {
                hidden.add(method);
            } else {
                seen.add(signature(method));
                names.add(method.getName());
                check.is(Modifier.PUBLIC, method.getModifiers());
            }
        }
        check.same(String.join("\n", new TreeSet<>(List.of(METHODS))), String.join("\n", seen));
        for (Method method : hidden) {
            check.is(0, names.contains(method.getName()) ? 1 : 0);
        }
    }

    private static String signature(Method method) {
        StringBuilder text = new StringBuilder(method.getReturnType().getName());
        text.append(' ').append(method.getName()).append('(');
        String comma = "";
        for (Class<?> type : method.getParameterTypes()) {
            text.append(comma).append(type.getName());
            comma = ", ";
        }
        text.append(')');
        for (Class<?> type : method.getExceptionTypes()) {
            text.append(' ').append(type.getSimpleName());
        }
        return text.toString();
    }

    private static int access(int modifiers) {
        return modifiers & (Modifier.PUBLIC | Modifier.PROTECTED | Modifier.PRIVATE);
    }

    private static void importsNothing() throws IOException {
        for (String line : Files.readAllLines(Path.of("src/main/java/RecordsOffice.java"))) {
            check.is(0, line.startsWith("import ") || line.startsWith("package ") ? 1 : 0);
        }
    }
}
