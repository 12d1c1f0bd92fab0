import java.io.File;
import java.io.IOException;
import java.net.URL;
import java.net.URLClassLoader;
import java.nio.file.Files;
import java.nio.file.Path;
import java.util.LinkedHashMap;
import java.util.List;
import java.util.Map;
import java.util.regex.Matcher;
import java.util.regex.Pattern;
import javax.tools.ToolProvider;

/** The examples of README.md compile as they stand, and answer what they say behind "//". */
public final class ReadmeTest {
    private static final Check CHECK = new Check();
    private static final Pattern TOLD = Pattern.compile(" *int (\\w+) = .*; *// (-?\\d+)\\b.*");

    private ReadmeTest() {
    }

    public static void main(String[] args) throws Exception {
        List<String> lines = Files.readAllLines(Path.of("README.md"));
        CHECK.part("README.md");
        StringBuilder body = new StringBuilder();
        int told = 0;
        boolean isExample = false;
        for (String line : lines) {
            if (line.startsWith("```")) {
                isExample = line.equals("```java");
            } else if (isExample) {
                body.append(line).append('\n');
                Matcher matcher = TOLD.matcher(line);
                if (matcher.matches()) {
                    told++;
                    body.append("d.put(\"").append(matcher.group(1)).append(" = ")
                            .append(matcher.group(2)).append("\", ").append(matcher.group(1))
                            .append(" == ").append(matcher.group(2)).append(");\n");
                }
            }
        }
        CHECK.that("the examples tell answers", told >= 10);
        run(body.toString());
        CHECK.end("ReadmeTest");
    }

    private static void run(String body) throws Exception {
        Path folder = Files.createTempDirectory("readme");
        try {
            Path file = folder.resolve("Example.java");
            Files.writeString(file, "public class Example {\n"
                    + "public static void run(java.util.Map<String, Boolean> d) {\n"
                    + body + "}\n}\n");
            int exit = ToolProvider.getSystemJavaCompiler().run(null, null, null, "-cp",
                    System.getProperty("java.class.path"), "-d", folder.toString(),
                    file.toString());
            CHECK.that("the examples compile", exit == 0);
            if (exit == 0) {
                answers(folder);
            }
        } finally {
            remove(folder);
        }
    }

    private static void answers(Path folder) throws Exception {
        Map<String, Boolean> answers = new LinkedHashMap<>();
        try (URLClassLoader loader = new URLClassLoader(new URL[] {folder.toUri().toURL()})) {
            loader.loadClass("Example").getMethod("run", Map.class)
                    .invoke(null, answers);
        }
        answers.forEach(CHECK::that);
    }

    private static void remove(Path folder) throws IOException {
        File[] files = folder.toFile().listFiles();
        for (File file : files == null ? new File[0] : files) {
            Files.delete(file.toPath());
        }
        Files.delete(folder);
    }
}
