import java.io.ByteArrayOutputStream;
import java.io.IOException;
import java.io.PrintStream;
import java.net.URL;
import java.net.URLClassLoader;
import java.nio.charset.StandardCharsets;
import java.nio.file.Files;
import java.nio.file.Path;
import java.util.ArrayList;
import java.util.Arrays;
import java.util.List;
import javax.tools.JavaCompiler;
import javax.tools.ToolProvider;

/** The program in README.md compiles, and prints what stands there behind each of its calls. */
public final class ReadmeTest {
    private static final String PRINT = "System.out.println(";
    private static final String ANSWER = "// ";

    public static void main(String[] args) throws Exception {
        List<String> readme = Files.readAllLines(Path.of("README.md"), StandardCharsets.UTF_8);
        List<String> program = program(readme);
        List<String> due = new ArrayList<>();
        for (String line : program) {
            if (line.contains(PRINT)) {
                due.add(line.substring(line.indexOf(ANSWER) + ANSWER.length()));
            }
        }
        Check.yes("the program prints something", due.size() > 10);
        List<String> printed = printed(program);
        for (int n = 0; n < Math.max(due.size(), printed.size()); n++) {
            Check.same("line " + n + " of what it prints", n < printed.size() ? printed.get(n) : "nothing", n < due.size() ? due.get(n) : "nothing");
        }
        callsAreNamed(readme);
        Check.end();
    }

    private static List<String> program(List<String> readme) {
        int start = readme.indexOf("```java") + 1;
        int length = readme.subList(start, readme.size()).indexOf("```");
        return readme.subList(start, start + length);
    }

    private static List<String> printed(List<String> program) throws Exception {
        Path out = Files.createTempDirectory("readme");
        Path source = out.resolve("Example.java");
        Files.write(source, program, StandardCharsets.UTF_8);
        JavaCompiler javac = ToolProvider.getSystemJavaCompiler();
        int failed = javac.run(null, null, null, "-encoding", "UTF-8", "-cp", System.getProperty("java.class.path"),
                "-d", out.toString(), source.toString());
        Check.same("what javac answers", failed, 0);
        try {
            return failed == 0 ? run(out) : List.of();
        } finally {
            remove(out);
        }
    }

    private static List<String> run(Path out) throws Exception {
        PrintStream screen = System.out;
        ByteArrayOutputStream bytes = new ByteArrayOutputStream();
        try (URLClassLoader loader = new URLClassLoader(new URL[] {out.toUri().toURL()})) {
            System.setOut(new PrintStream(bytes, true, StandardCharsets.UTF_8));
            loader.loadClass("Example").getMethod("main", String[].class).invoke(null, (Object) new String[0]);
        } finally {
            System.setOut(screen);
        }
        return Arrays.asList(bytes.toString(StandardCharsets.UTF_8).split("\\R"));
    }

    private static void remove(Path directory) throws IOException {
        try (var files = Files.list(directory)) {
            for (Path file : files.toList()) {
                Files.delete(file);
            }
        }
        Files.delete(directory);
    }

    /** Every call of the face stands in the table of README.md. */
    private static void callsAreNamed(List<String> readme) {
        String text = String.join("\n", readme);
        for (java.lang.reflect.Method method : StoryTapestry.class.getMethods()) {
            if (method.getDeclaringClass() == StoryTapestry.class) {
                Check.yes(method.getName() + " stands in README.md", text.contains("`" + method.getName() + "`"));
            }
        }
    }
}
