import java.io.IOException;
import java.net.URL;
import java.net.URLClassLoader;
import java.nio.file.Files;
import java.nio.file.Path;
import java.util.ArrayList;
import java.util.Comparator;
import java.util.List;
import java.util.TreeSet;
import java.util.regex.Matcher;
import java.util.regex.Pattern;
import java.util.stream.Stream;
import javax.tools.ToolProvider;

/** What README.md shows is what the class does: its examples are run as one program, its list of tests is whole. */
public final class ReadmeTest {
    private static final Check check = new Check();

    /** A call with what it shows behind an arrow: an answer, or "throws" and an exception. */
    private static final Pattern SHOWN = Pattern.compile("(.*?;)\\s*// -> ((?:throws )?[-\\w]+).*");
    private static final Pattern KEPT = Pattern.compile("int (\\w+) = .*");
    private static final Pattern TEST = Pattern.compile("\\| (\\w+Test) \\|.*");

    public static void main(String[] args) throws Exception {
        List<String> lines = Files.readAllLines(Path.of("README.md"));
        answersAreAsShown(examples(lines));
        everyCallIsShown(examples(lines));
        testsAreListed(lines);
        check.end();
    }

    private static List<String> examples(List<String> lines) {
        List<String> code = new ArrayList<>();
        boolean inside = false;
        for (String line : lines) {
            if (line.startsWith("```")) {
                inside = line.equals("```java");
            } else if (inside) {
                code.add(line);
            }
        }
        return code;
    }

    private static void answersAreAsShown(List<String> code) throws Exception {
        List<String> calls = new ArrayList<>();
        List<String> shown = new ArrayList<>();
        StringBuilder body = new StringBuilder();
        for (String line : code) {
            Matcher matcher = SHOWN.matcher(line);
            if (matcher.matches()) {
                calls.add(matcher.group(1));
                shown.add(matcher.group(2));
                body.append(noting(matcher.group(1), matcher.group(2)));
            } else {
                body.append(line).append('\n');
            }
        }
        String[] got = run(body.toString());
        check.is(1, shown.isEmpty() ? 0 : 1);
        check.is(shown.size(), got.length);
        for (int i = 0; i < got.length; i++) {
            check.about("README.md: " + calls.get(i));
            check.same(shown.get(i), got[i]);
        }
        check.about("");
    }

    /** The call, and a note of what it answered or threw. */
    private static String noting(String call, String shown) {
        if (shown.startsWith("throws ")) {
            return "try { " + call + " got.add(\"nothing thrown\"); }"
                    + " catch (RuntimeException e) { got.add(\"throws \" + e.getClass().getSimpleName()); }\n";
        }
        Matcher kept = KEPT.matcher(call);
        String answer = kept.matches() ? kept.group(1) : call.substring(0, call.length() - 1);
        String asked = "got.add(" + (shown.equals("NONE") ? "none(" + answer + ")" : "\"\" + " + answer) + ");\n";
        return kept.matches() ? call + "\n" + asked : asked;
    }

    private static String[] run(String body) throws Exception {
        Path directory = Files.createTempDirectory("readme");
        try {
            Path source = directory.resolve("ReadmeExamples.java");
            Files.writeString(source, "public final class ReadmeExamples {\n"
                    + "static String none(int x) { return x == RecordsOffice.NONE ? \"NONE\" : \"\" + x; }\n"
                    + "public static String[] run() {\n"
                    + "java.util.ArrayList<String> got = new java.util.ArrayList<>();\n"
                    + body
                    + "return got.toArray(new String[0]);\n}\n}\n");
            int failed = ToolProvider.getSystemJavaCompiler().run(null, null, null, "-cp",
                    System.getProperty("java.class.path"), "-d", directory.toString(), source.toString());
            check.is(0, failed);
            return failed == 0 ? load(directory) : new String[0];
        } finally {
            delete(directory);
        }
    }

    private static String[] load(Path directory) throws Exception {
        URL[] urls = {directory.toUri().toURL()};
        try (URLClassLoader loader = new URLClassLoader(urls, ReadmeTest.class.getClassLoader())) {
            return (String[]) loader.loadClass("ReadmeExamples").getMethod("run").invoke(null);
        }
    }

    private static void delete(Path directory) throws IOException {
        try (Stream<Path> all = Files.walk(directory)) {
            for (Path path : all.sorted(Comparator.reverseOrder()).toList()) {
                Files.delete(path);
            }
        }
    }

    private static void everyCallIsShown(List<String> code) {
        String text = String.join("\n", code);
        for (var method : RecordsOffice.class.getMethods()) {
            if (method.getDeclaringClass() == RecordsOffice.class) {
                check.about("README.md shows no call of " + method.getName());
                check.is(1, text.contains("office." + method.getName() + "(") ? 1 : 0);
            }
        }
        check.about("");
    }

    private static void testsAreListed(List<String> lines) throws IOException {
        TreeSet<String> listed = new TreeSet<>();
        for (String line : lines) {
            Matcher matcher = TEST.matcher(line);
            if (matcher.matches()) {
                listed.add(matcher.group(1));
            }
        }
        TreeSet<String> there = new TreeSet<>();
        try (Stream<Path> files = Files.list(Path.of("src/test/java"))) {
            for (Path file : files.toList()) {
                String name = file.getFileName().toString();
                if (name.endsWith("Test.java")) {
                    there.add(name.substring(0, name.length() - ".java".length()));
                }
            }
        }
        check.same(String.join("\n", there), String.join("\n", listed));
    }
}
