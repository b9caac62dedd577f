import java.io.IOException;
import java.net.URL;
import java.net.URLClassLoader;
import java.nio.file.Files;
import java.nio.file.Path;
import java.util.regex.Matcher;
import java.util.regex.Pattern;

/** Compiles and runs the example of README.md: each call with a number behind it must answer that number. */
public final class ReadmeTest {
    private static final Pattern EXAMPLE = Pattern.compile("(?s)```java\n(.*?)```");
    private static final Pattern ANSWERED = Pattern.compile("(names\\.\\w+\\([^;]*\\)); *// (-?\\d+).*");

    private static int asked;
    private static int wrong;

    private ReadmeTest() {
    }

    /** Called by what is made of the example. */
    public static void due(String call, long got, long want) {
        asked++;
        if (got != want) {
            wrong++;
            System.out.println("README.md: " + call + " answered " + got + ", said is " + want);
        }
    }

    public static void main(String[] args) throws Exception {
        Matcher example = EXAMPLE.matcher(Files.readString(Path.of("README.md")));
        while (example.find()) {
            run(example.group(1));
        }
        System.out.println("ReadmeTest: " + asked + " answers asked, " + wrong + " wrong");
        if (wrong > 0 || asked < 10) {
            System.exit(1);
        }
    }

    private static void run(String example) throws Exception {
        StringBuilder code = new StringBuilder("public final class Example {\npublic static void main(String[] args) {\n");
        for (String line : example.split("\n")) {
            Matcher m = ANSWERED.matcher(line);
            code.append(m.matches() ? "ReadmeTest.due(\"" + m.group(1) + "\", " + m.group(1) + ", " + m.group(2) + ");" : line);
            code.append('\n');
        }
        Path folder = Files.createTempDirectory("readme");
        try {
            compileAndRun(folder, code.append("}\n}\n").toString());
        } finally {
            removeAll(folder);
        }
    }

    private static void compileAndRun(Path folder, String code) throws Exception {
        Path source = folder.resolve("Example.java");
        Files.writeString(source, code);
        int failed = new ProcessBuilder("javac", "-encoding", "UTF-8", "-cp", System.getProperty("java.class.path"),
            "-d", folder.toString(), source.toString()).inheritIO().start().waitFor();
        if (failed != 0) {
            wrong++;
            return;
        }
        URL[] where = {folder.toUri().toURL()};
        try (URLClassLoader loader = new URLClassLoader(where, ReadmeTest.class.getClassLoader())) {
            loader.loadClass("Example").getMethod("main", String[].class).invoke(null, (Object) new String[0]);
        }
    }

    private static void removeAll(Path folder) throws IOException {
        try (var paths = Files.list(folder)) {
            for (Path path : paths.toList()) {
                Files.delete(path);
            }
        }
        Files.delete(folder);
    }
}
