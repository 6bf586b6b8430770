import java.io.ByteArrayOutputStream;
import java.io.File;
import java.io.IOException;
import java.io.PrintStream;
import java.lang.reflect.Method;
import java.lang.reflect.Modifier;
import java.net.URL;
import java.net.URLClassLoader;
import java.nio.file.Files;
import java.nio.file.Path;
import java.util.Set;
import java.util.TreeSet;
import java.util.regex.Matcher;
import java.util.regex.Pattern;
import javax.tools.JavaCompiler;
import javax.tools.ToolProvider;

/** README.md is there, its example prints what it says, and what it says of running the tests is what .ci/run does. */
public final class ReadmeTest {
    private static final Path README = Path.of("README.md");
    private static final Path SCRIPT = Path.of(".ci/run");
    private static final Path TESTS = Path.of("src/test/java");
    private static final Pattern TEST_NAMED = Pattern.compile("`src/test/java/(\\w+\\.java)`");

    private static int wrong = 0;

    public static void main(String[] args) throws Exception {
        check("README.md is there", Files.isRegularFile(README));
        if (wrong == 0) {
            String readme = Files.readString(README);
            namesEachCall(readme);
            namesEachTest(readme);
            scriptRunsWhatIsNamed(readme, Files.readString(SCRIPT));
            examplePrintsWhatItSays(readme);
        }
        System.out.println(wrong == 0 ? "README.md is as it should be" : wrong + " things of README.md are wrong");
        if (wrong != 0) {
            System.exit(1);
        }
    }

    private static void namesEachCall(String readme) {
        for (Method method : TableTurns.class.getDeclaredMethods()) {
            if (Modifier.isPublic(method.getModifiers())) {
                check("it names " + method.getName(), readme.contains("`" + method.getName() + "`"));
            }
        }
    }

    private static void namesEachTest(String readme) {
        Set<String> named = new TreeSet<>();
        Matcher matcher = TEST_NAMED.matcher(readme);
        while (matcher.find()) {
            named.add(matcher.group(1));
        }
        Set<String> there = new TreeSet<>();
        File[] files = TESTS.toFile().listFiles();
        for (File file : files == null ? new File[0] : files) {
            there.add(file.getName());
        }
        check("the tests named " + named + " are those that are there " + there, named.equals(there));
    }

    private static void scriptRunsWhatIsNamed(String readme, String script) {
        check(".ci/run can be run", Files.isExecutable(SCRIPT));
        check("it says that .ci/run runs them", readme.contains("\n    .ci/run\n"));
        check("it names ../shared/tests", readme.contains("`../shared/tests`"));
        check(".ci/run takes all of src/test/java", script.contains("src/test/java/*.java"));
        check(".ci/run takes all of ../shared/tests", script.contains("../shared/tests") && script.contains("\"$shared\"/*.java"));
        check(".ci/run compiles each with the class", script.contains("src/main/java/TableTurns.java") && script.contains("javac"));
        check(".ci/run looks for README.md", script.contains("README.md"));
    }

    private static void examplePrintsWhatItSays(String readme) throws Exception {
        String code = block(readme, "java");
        String due = block(readme, "text");
        check("it has an example and what this prints", !code.isEmpty() && !due.isEmpty());
        Path out = Files.createTempDirectory("readme");
        try {
            Path source = Files.writeString(out.resolve("Example.java"), code);
            JavaCompiler javac = ToolProvider.getSystemJavaCompiler();
            String classPath = System.getProperty("java.class.path");
            int failed = javac.run(null, null, null, "-cp", classPath, "-d", out.toString(), source.toString());
            check("the example compiles", failed == 0);
            String printed = failed == 0 ? printedBy(out) : "";
            check("the example prints\n" + due + "but it printed\n" + printed, printed.equals(due));
        } finally {
            remove(out);
        }
    }

    private static String block(String readme, String kind) {
        Matcher matcher = Pattern.compile("```" + kind + "\n(.*?)```", Pattern.DOTALL).matcher(readme);
        return matcher.find() ? matcher.group(1) : "";
    }

    private static String printedBy(Path out) throws Exception {
        PrintStream usual = System.out;
        ByteArrayOutputStream bytes = new ByteArrayOutputStream();
        try (URLClassLoader loader = new URLClassLoader(new URL[] {out.toUri().toURL()}, ReadmeTest.class.getClassLoader())) {
            Method example = loader.loadClass("Example").getMethod("main", String[].class);
            System.setOut(new PrintStream(bytes));
            example.invoke(null, (Object) new String[0]);
        } finally {
            System.setOut(usual);
        }
        return bytes.toString().replace(System.lineSeparator(), "\n");
    }

    private static void remove(Path directory) throws IOException {
        File[] files = directory.toFile().listFiles();
        for (File file : files == null ? new File[0] : files) {
            Files.delete(file.toPath());
        }
        Files.delete(directory);
    }

    private static void check(String what, boolean holds) {
        if (!holds) {
            wrong++;
            System.out.println("not so: " + what);
        }
    }
}
