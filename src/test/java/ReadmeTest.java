import java.io.IOException;
import java.net.URL;
import java.net.URLClassLoader;
import java.nio.file.Files;
import java.nio.file.Path;
import java.util.List;
import java.util.regex.Matcher;
import java.util.regex.Pattern;
import javax.tools.ToolProvider;

/** README's example compiles as it stands, and each call of it answers what stands behind it. */
public final class ReadmeTest {
    private static final Pattern BLOCK = Pattern.compile("(?s)```java\n(.*?)```");
    private static final Pattern ASKED = Pattern.compile("([^=]+);\\s+// (throws )?(-?\\w+)(:.*)?");
    private static final int LEAST_CALLS = 25;

    public static void main(String[] args) throws Exception {
        Matcher block = BLOCK.matcher(Files.readString(Path.of("README.md")));
        Due.compare("an example is there", String.valueOf(block.find()), "true");
        List<?> rows = answers(program(block.group(1)));
        for (int row = 0; row + 2 < rows.size(); row += 3) {
            Due.compare("README: " + rows.get(row), text(rows, row + 1), text(rows, row + 2));
        }
        Due.compare("its calls are found", String.valueOf(rows.size() >= 3 * LEAST_CALLS), "true");
        Due.end();
    }

    private static String text(List<?> rows, int row) {
        return String.valueOf(rows.get(row));
    }

    /** A class that runs the example and lists each call, its answer and the one that is due. */
    private static String program(String example) {
        StringBuilder text = new StringBuilder();
        text.append("import java.util.*;\npublic final class Example {\n");
        text.append("static List<Object> rows = new ArrayList<>();\n");
        text.append("static void row(String call, java.util.function.IntSupplier asked, Object due) {\n");
        text.append("rows.add(call);\n");
        text.append("try { rows.add(asked.getAsInt()); }\n");
        text.append("catch (RuntimeException e) { rows.add(e.getClass().getSimpleName()); }\n");
        text.append("rows.add(due); }\n");
        text.append("public static List<Object> answers() {\n");
        for (String line : example.split("\n")) {
            text.append(statement(line)).append('\n');
        }
        return text.append("return rows; } }\n").toString();
    }

    private static String statement(String line) {
        Matcher asked = ASKED.matcher(line);
        if (!asked.matches()) {
            return line;
        }
        String due = asked.group(2) == null ? asked.group(3) : "\"" + asked.group(3) + "\"";
        return "row(\"" + asked.group(1) + "\", () -> " + asked.group(1) + ", " + due + ");";
    }

    private static List<?> answers(String program) throws IOException, ReflectiveOperationException {
        Path place = Files.createTempDirectory("readme");
        Path source = place.resolve("Example.java");
        try {
            Files.writeString(source, program);
            int failed = ToolProvider.getSystemJavaCompiler().run(null, null, null,
                    "-cp", System.getProperty("java.class.path"), "-d", place.toString(), source.toString());
            Due.compare("the example compiles", String.valueOf(failed), "0");
            return failed == 0 ? run(place) : List.of();
        } finally {
            empty(place);
        }
    }

    private static List<?> run(Path place) throws IOException, ReflectiveOperationException {
        try (URLClassLoader loader = new URLClassLoader(new URL[] {place.toUri().toURL()})) {
            return (List<?>) loader.loadClass("Example").getMethod("answers").invoke(null);
        }
    }

    private static void empty(Path place) throws IOException {
        try (var files = Files.list(place)) {
            for (Path file : files.toList()) {
                Files.delete(file);
            }
        }
        Files.delete(place);
    }
}
