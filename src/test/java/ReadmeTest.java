import java.io.File;
import java.nio.file.Files;
import java.nio.file.Path;
import java.util.List;
import java.util.regex.Matcher;
import java.util.regex.Pattern;
import java.util.stream.Stream;
import javax.tools.JavaCompiler;
import javax.tools.ToolProvider;

/** Runs the page README.md: each call with a comment behind it answers what the comment begins with. */
public final class ReadmeTest {
    private static final Pattern TOLD = Pattern.compile("(land\\..*\\));\\s*// (-?\\d+|true|false)\\b.*");
    private static final int LEAST_TOLD = 30;

    public static void main(String[] args) throws Exception {
        StringBuilder body = new StringBuilder();
        int told = 0;
        boolean inside = false;
        for (String line : Files.readAllLines(Path.of("README.md"))) {
            if (line.startsWith("```")) {
                inside = line.equals("```java");
                continue;
            }
            Matcher call = TOLD.matcher(line);
            if (inside && call.matches()) {
                told++;
                body.append("checks.due(\"README: ").append(call.group(1)).append("\", ");
                body.append(call.group(1)).append(", ").append(call.group(2)).append(");\n");
            } else if (inside) {
                body.append(line).append('\n');
            }
        }
        if (told < LEAST_TOLD) {
            System.out.println("README.md tells only " + told + " answers");
            System.exit(1);
        }
        run(body.toString());
    }

    private static void run(String body) throws Exception {
        Path directory = Files.createTempDirectory("readme");
        int result;
        try {
            Path file = directory.resolve("ReadmePage.java");
            Files.writeString(file, "final class ReadmePage { public static void main(String[] args) {\n"
                + "Checks checks = new Checks();\n" + body + "checks.finish(\"ReadmeTest\"); } }\n");
            result = compile(file, directory) ? java(directory) : 1;
        } finally {
            delete(directory);
        }
        System.exit(result);
    }

    private static boolean compile(Path file, Path directory) {
        JavaCompiler compiler = ToolProvider.getSystemJavaCompiler();
        String path = System.getProperty("java.class.path");
        return compiler.run(null, null, null, "-cp", path, "-d", directory.toString(), file.toString()) == 0;
    }

    private static int java(Path directory) throws Exception {
        String java = Path.of(System.getProperty("java.home"), "bin", "java").toString();
        String path = System.getProperty("java.class.path") + File.pathSeparator + directory;
        return new ProcessBuilder(java, "-cp", path, "ReadmePage").inheritIO().start().waitFor();
    }

    private static void delete(Path directory) throws Exception {
        List<Path> files;
        try (Stream<Path> found = Files.list(directory)) {
            files = found.toList();
        }
        for (Path file : files) {
            Files.delete(file);
        }
        Files.delete(directory);
    }
}
