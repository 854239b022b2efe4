import java.io.IOException;
import java.nio.file.Files;
import java.nio.file.Path;
import java.util.Comparator;
import java.util.Set;
import java.util.TreeSet;
import java.util.regex.Matcher;
import java.util.regex.Pattern;
import java.util.stream.Stream;
import javax.tools.ToolProvider;

/** README.md: its program prints what it says, and its table names every test and no other. */
public final class ReadmeTest {
    private static final Tester t = new Tester();

    public static void main(String[] args) throws IOException, InterruptedException {
        String readme = Files.readString(Path.of("README.md"));
        program(readme);
        table(readme);
        t.end();
    }

    private static void program(String readme) throws IOException, InterruptedException {
        t.topic("the program");
        Path directory = Files.createTempDirectory("readme");
        try {
            Path file = directory.resolve("Example.java");
            Files.writeString(file, block(readme, "java"));
            int compiled = ToolProvider.getSystemJavaCompiler().run(null, null, null,
                    "-d", directory.toString(), "src/main/java/TimberSale.java", file.toString());
            t.due("compiles", 0, () -> compiled);
            String printed = output(directory);
            t.due("prints what the page says, but printed\n" + printed, true,
                    printed.equals(block(readme, "text")));
        } finally {
            remove(directory);
        }
    }

    private static String output(Path directory) throws IOException, InterruptedException {
        Process process = new ProcessBuilder("java", "-cp", directory.toString(), "Example")
                .redirectErrorStream(true).start();
        String printed = new String(process.getInputStream().readAllBytes());
        process.waitFor();
        return printed.replace(System.lineSeparator(), "\n");
    }

    /** What stands between the marks of the only block of this kind. */
    private static String block(String readme, String kind) {
        Matcher blocks = Pattern.compile("```" + kind + "\n(.*?)```\n", Pattern.DOTALL).matcher(readme);
        String found = blocks.find() ? blocks.group(1) : "";
        t.due("has one block of " + kind, true, !found.isEmpty() && !blocks.find());
        return found;
    }

    private static void remove(Path directory) throws IOException {
        try (Stream<Path> files = Files.walk(directory)) {
            for (Path file : files.sorted(Comparator.reverseOrder()).toArray(Path[]::new)) {
                Files.delete(file);
            }
        }
    }

    private static void table(String readme) throws IOException {
        t.topic("the table of the tests");
        Set<String> told = new TreeSet<>();
        Matcher rows = Pattern.compile("^\\| `(\\w+)` \\|", Pattern.MULTILINE).matcher(readme);
        while (rows.find()) {
            told.add(rows.group(1) + ".java");
        }
        Set<String> present = new TreeSet<>();
        try (Stream<Path> files = Files.list(Path.of("src/test/java"))) {
            files.map(file -> file.getFileName().toString()).filter(name -> name.endsWith("Test.java"))
                    .forEach(present::add);
        }
        t.due(told + " are the tests " + present, true, told.equals(present));
    }
}
