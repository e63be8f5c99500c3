import java.io.File;
import java.io.IOException;
import java.lang.reflect.Method;
import java.nio.file.Files;
import java.nio.file.Path;
import java.util.Comparator;
import java.util.List;
import java.util.regex.Matcher;
import java.util.regex.Pattern;
import java.util.stream.Stream;
import javax.tools.ToolProvider;

/** README.md: its examples answer what stands behind them, and it names each call and each test there is. */
public final class ReadmeTest {
    private static final Pattern BLOCK = Pattern.compile("```java\n(.*?)```", Pattern.DOTALL);
    private static final Pattern ANSWERED = Pattern.compile("(?m)^(law\\..*\\)); +// (-?\\d+|NetLaw\\.\\w+):.*$");

    public static void main(String[] args) throws IOException, ReflectiveOperationException {
        String readme = Files.readString(Path.of("README.md"));
        names(readme);
        String program = program(readme);
        Path place = Files.createTempDirectory("readme");
        try {
            run(program, place);
        } finally {
            remove(place);
        }
        Due.end("ReadmeTest");
    }

    private static void names(String readme) throws IOException {
        for (Method m : NetLaw.class.getDeclaredMethods()) {
            if (m.getModifiers() == java.lang.reflect.Modifier.PUBLIC) {
                Due.due("README.md names " + m.getName(), readme.contains("`" + m.getName() + "` (") ? 1 : 0, 1);
            }
        }
        try (Stream<Path> tests = Files.list(Path.of("src/test/java"))) {
            for (Path test : (Iterable<Path>) tests::iterator) {
                String name = test.getFileName().toString();
                if (name.endsWith("Test.java")) {
                    String told = "`" + name.substring(0, name.length() - 5) + "`";
                    Due.due("README.md names " + told, readme.contains(told) ? 1 : 0, 1);
                }
            }
        }
    }

    /** The examples as a program, each told answer as a question to Due. */
    private static String program(String readme) {
        StringBuilder program = new StringBuilder("final class ReadmeExamples { static void run() {\n");
        int answers = 0;
        Matcher blocks = BLOCK.matcher(readme);
        while (blocks.find()) {
            Matcher lines = ANSWERED.matcher(blocks.group(1));
            answers += (int) lines.results().count();
            lines.reset();
            program.append("{\n").append(lines.replaceAll("Due.due(\"README.md: $1\", $1, $2);")).append("}\n");
        }
        Due.due("README.md has examples with answers", answers > 0 ? 1 : 0, 1);
        return program.append("}}\n").toString();
    }

    /** The examples join Due and NetLaw in the place where this test was compiled to: so they share their count. */
    private static void run(String program, Path place) throws IOException, ReflectiveOperationException {
        Path source = place.resolve("ReadmeExamples.java");
        Files.writeString(source, program);
        String classes = List.of(System.getProperty("java.class.path").split(File.pathSeparator)).get(0);
        int failed = ToolProvider.getSystemJavaCompiler().run(null, null, null,
                "-proc:none", "-cp", classes, "-d", classes, source.toString());
        Due.due("the examples of README.md can be compiled", failed, 0);
        if (failed == 0) {
            Method run = Class.forName("ReadmeExamples").getDeclaredMethod("run");
            run.setAccessible(true);
            run.invoke(null);
        }
    }

    private static void remove(Path place) throws IOException {
        try (Stream<Path> all = Files.walk(place)) {
            for (Path p : (Iterable<Path>) all.sorted(Comparator.reverseOrder())::iterator) {
                Files.delete(p);
            }
        }
    }
}
