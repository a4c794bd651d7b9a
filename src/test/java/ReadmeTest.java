import java.io.IOException;
import java.lang.reflect.Method;
import java.nio.file.Files;
import java.nio.file.Path;
import java.util.Comparator;
import java.util.List;
import java.util.TreeSet;
import java.util.regex.Matcher;
import java.util.regex.Pattern;
import java.util.stream.Stream;
import javax.tools.ToolProvider;

/** README.md is right: what its example prints, its table of calls and its list of tests. */
public final class ReadmeTest {
    private final Checks checks = new Checks();
    private final String readme;

    private ReadmeTest(String readme) {
        this.readme = readme;
    }

    /** Runs in the project's directory, where .ci/run goes. */
    public static void main(String[] args) throws Exception {
        ReadmeTest test = new ReadmeTest(Files.readString(Path.of("README.md")));
        test.examplePrintsWhatIsSaid();
        test.tableHasEveryCall();
        test.listHasEveryTest();
        test.testsAreRunByCi();
        test.checks.end("ReadmeTest");
    }

    private void examplePrintsWhatIsSaid() throws Exception {
        Path directory = Files.createTempDirectory("readme");
        try {
            Path source = directory.resolve("Example.java");
            Files.writeString(source, block("java"));
            int failed = ToolProvider.getSystemJavaCompiler().run(null, System.out, System.out,
                    "--release", "17", "-cp", System.getProperty("java.class.path"),
                    "-d", directory.toString(), source.toString());
            checks.due("compiling the example", failed, 0);
            checks.due("running the example", failed == 0 ? printed(directory) : "nothing",
                    block("text"));
        } finally {
            remove(directory);
        }
    }

    /** The text between the first fence of that kind and the next one. */
    private String block(String kind) {
        Matcher matcher = Pattern.compile("(?s)\n```" + kind + "\n(.*?)```\n").matcher(readme);
        return matcher.find() ? matcher.group(1) : "no block of " + kind;
    }

    private static String printed(Path directory) throws Exception {
        String path = System.getProperty("java.class.path");
        Process process = new ProcessBuilder(
                Path.of(System.getProperty("java.home"), "bin", "java").toString(),
                "-cp", path + System.getProperty("path.separator") + directory, "Example")
                .redirectError(ProcessBuilder.Redirect.INHERIT).start();
        String text = new String(process.getInputStream().readAllBytes());
        int code = process.waitFor();
        return code == 0 ? text : text + "exit code " + code;
    }

    private static void remove(Path directory) throws IOException {
        List<Path> paths;
        try (Stream<Path> walk = Files.walk(directory)) {
            paths = walk.sorted(Comparator.reverseOrder()).toList();
        }
        for (Path path : paths) {
            Files.delete(path);
        }
    }

    /** The first column's calls, by name and number of arguments. */
    private void tableHasEveryCall() {
        TreeSet<String> said = new TreeSet<>();
        Matcher row = Pattern.compile("(?m)^\\| `(\\w+)\\(([^)]*)\\)`").matcher(readme);
        while (row.find()) {
            said.add(row.group(1) + " of " + row.group(2).split(", ").length);
        }
        TreeSet<String> due = new TreeSet<>();
        for (Method method : LatticeWraps.class.getMethods()) {
            if (method.getDeclaringClass() == LatticeWraps.class) {
                due.add(method.getName() + " of " + method.getParameterCount());
            }
        }
        checks.due("the table of calls", said.toString(), due.toString());
    }

    private void listHasEveryTest() throws IOException {
        TreeSet<String> said = new TreeSet<>();
        Matcher item = Pattern.compile("(?m)^- `(\\w+)`:").matcher(readme);
        while (item.find()) {
            said.add(item.group(1));
        }
        TreeSet<String> due = new TreeSet<>();
        try (Stream<Path> files = Files.list(Path.of("src/test/java"))) {
            for (Path file : files.toList()) {
                String name = file.getFileName().toString();
                if (name.endsWith("Test.java")) {
                    due.add(name.substring(0, name.length() - ".java".length()));
                }
            }
        }
        checks.due("the list of tests", said.toString(), due.toString());
    }

    private void testsAreRunByCi() {
        checks.due("the way to run the tests", readme.contains("\n\n    .ci/run\n\n") ? 1 : 0, 1);
        checks.due(".ci/run can be run", Files.isExecutable(Path.of(".ci/run")) ? 1 : 0, 1);
    }
}
