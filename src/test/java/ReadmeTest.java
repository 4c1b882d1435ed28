import java.io.IOException;
import java.lang.reflect.Method;
import java.lang.reflect.Modifier;
import java.net.URL;
import java.net.URLClassLoader;
import java.nio.charset.StandardCharsets;
import java.nio.file.Files;
import java.nio.file.Path;
import java.util.ArrayList;
import java.util.List;
import java.util.regex.Matcher;
import java.util.regex.Pattern;
import javax.tools.ToolProvider;

/** README.md: what its examples say that calls answer is what they answer, and it tells of every call. */
public final class ReadmeTest {
    private static final Pattern ROW = Pattern.compile("^\\| `(\\w+)\\(([\\w, ]*)\\)` \\| (.*) \\| (.*) \\| (.*) \\|$");
    private static final Pattern ASKED = Pattern.compile("^(x\\..*);\\s+// (-?\\d+): .*$");
    private static final Due due = new Due();

    public static void main(String[] args) throws IOException, ReflectiveOperationException {
        String readme = Files.readString(Path.of("README.md"), StandardCharsets.US_ASCII);
        examples(readme);
        everyCall(readme);
        due.end();
    }

    private static void examples(String readme) throws IOException, ReflectiveOperationException {
        Matcher blocks = Pattern.compile("(?s)```java\n(.*?)```").matcher(readme);
        int found = 0;
        while (blocks.find()) {
            example("Example" + found++, blocks.group(1).split("\n"));
        }
        due.is("examples", found, 2);
    }

    /** Each line is the making of an object, or a call with its answer behind it. */
    private static void example(String name, String[] lines) throws IOException, ReflectiveOperationException {
        List<String> calls = new ArrayList<>();
        List<Long> wanted = new ArrayList<>();
        StringBuilder source = new StringBuilder("public class " + name + " { public static void ask(java.util.List<Long> got) {\n");
        for (String line : lines) {
            Matcher asked = ASKED.matcher(line);
            if (asked.matches()) {
                calls.add(asked.group(1));
                wanted.add(Long.parseLong(asked.group(2)));
                source.append("got.add((long) ").append(asked.group(1)).append(");\n");
            } else {
                due.is("a line that tells no answer: " + line, line.startsWith("CoverMarks x = ") ? 0 : 1, 0);
                source.append(line).append('\n');
            }
        }
        List<Long> got = new ArrayList<>();
        run(name, source.append("} }\n").toString(), got);
        due.is("answers of " + name, got.size(), wanted.size());
        for (int i = 0; i < got.size(); i++) {
            due.is("README: " + calls.get(i), got.get(i), wanted.get(i));
        }
    }

    private static void run(String name, String source, List<Long> got) throws IOException, ReflectiveOperationException {
        Path folder = Files.createTempDirectory("readme");
        Path file = folder.resolve(name + ".java");
        Files.writeString(file, source);
        int failed = ToolProvider.getSystemJavaCompiler().run(null, null, null,
            "-proc:none", "-cp", System.getProperty("java.class.path"), "-d", folder.toString(), file.toString());
        due.is("compiling " + name, failed, 0);
        if (failed == 0) {
            try (URLClassLoader loader = new URLClassLoader(new URL[] {folder.toUri().toURL()})) {
                loader.loadClass(name).getMethod("ask", List.class).invoke(null, got);
            }
        }
        Files.deleteIfExists(folder.resolve(name + ".class"));
        Files.deleteIfExists(file);
        Files.deleteIfExists(folder);
    }

    private static void everyCall(String readme) {
        List<String> rows = new ArrayList<>();
        for (String line : readme.split("\n")) {
            Matcher row = ROW.matcher(line);
            if (row.matches()) {
                int numbers = row.group(2).isEmpty() ? 0 : row.group(2).split(", ").length;
                rows.add(row.group(1) + " " + numbers);
            }
        }
        int open = 0;
        for (Method m : CoverMarks.class.getDeclaredMethods()) {
            if (Modifier.isPublic(m.getModifiers())) {
                open++;
                due.is("README has a row of " + m.getName(), rows.contains(m.getName() + " " + m.getParameterCount()) ? 1 : 0, 1);
            }
        }
        due.is("rows of calls", rows.size(), open);
    }
}
