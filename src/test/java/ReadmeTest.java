import java.io.File;
import java.io.IOException;
import java.lang.reflect.Method;
import java.lang.reflect.Modifier;
import java.nio.charset.StandardCharsets;
import java.nio.file.Files;
import java.nio.file.Path;
import java.util.ArrayList;
import java.util.Arrays;
import java.util.Comparator;
import java.util.List;
import java.util.regex.Matcher;
import java.util.regex.Pattern;
import java.util.stream.Stream;

/** README.md is there, its example prints what it says, its commands run the tests, and .ci/run fails where it must. */
public final class ReadmeTest {
    private static final Path README = Path.of("README.md");
    private static final Path MAIN = Path.of("src/main/java/HoldTwo.java");
    private static final Path TESTS = Path.of("src/test/java");
    private static final Path CI = Path.of(".ci/run");
    private static final String ALL_TESTS = "sh .ci/run\n";
    private static final Path SHARED = Path.of("../shared");
    /** Set in the runs that this test begins, which would begin further ones otherwise. */
    private static final String WITHIN = "HOLDTWO_WITHIN";
    private static final Check CHECK = new Check();

    private ReadmeTest() {
    }

    public static void main(String[] args) throws IOException, InterruptedException {
        CHECK.that("README.md", Files.exists(README), "is not there");
        if (Files.exists(README)) {
            String readme = Files.readString(README, StandardCharsets.UTF_8);
            names(readme);
            if (System.getenv(WITHIN) == null) {
                example(readme);
                commands(readme);
                failures();
            }
        }
        CHECK.finish();
    }

    /** Every call of the face and every test is named. */
    private static void names(String readme) throws IOException {
        for (Method method : HoldTwo.class.getDeclaredMethods()) {
            if (Modifier.isPublic(method.getModifiers())) {
                CHECK.that("README.md", readme.contains("`" + method.getName() + "`"), "does not name " + method.getName());
            }
        }
        for (String test : testNames(TESTS)) {
            CHECK.that("README.md", readme.contains("`" + test + "`"), "does not name " + test);
        }
    }

    private static List<String> testNames(Path directory) throws IOException {
        List<String> names = new ArrayList<>();
        try (Stream<Path> files = Files.list(directory)) {
            files.map(file -> file.getFileName().toString()).filter(name -> name.endsWith("Test.java"))
                .forEach(name -> names.add(name.substring(0, name.length() - 5)));
        }
        return names;
    }

    private static List<String> blocks(String readme, String sort) {
        List<String> found = new ArrayList<>();
        Matcher matcher = Pattern.compile("(?s)```" + sort + "\\n(.*?)```").matcher(readme);
        while (matcher.find()) {
            found.add(matcher.group(1));
        }
        return found;
    }

    private static void example(String readme) throws IOException, InterruptedException {
        List<String> code = blocks(readme, "java");
        List<String> printed = blocks(readme, "text");
        CHECK.due("examples", code.size(), 1);
        CHECK.due("what they print", printed.size(), 1);
        Path room = Files.createTempDirectory("readme");
        Path file = room.resolve("Example.java");
        Files.writeString(file, String.join("", code));
        Run compiled = new Run(Path.of("."), "javac", "-Xlint:all", "-Werror", "-d", room.toString(), MAIN.toString(), file.toString());
        CHECK.that("the example", compiled.code == 0, compiled.output);
        Run run = new Run(Path.of("."), "java", "-cp", room.toString(), "Example");
        CHECK.that("the example", run.code == 0 && run.output.equals(String.join("", printed)), run.output);
        remove(room);
    }

    /** The commands are run in a copy, as they leave what they make. */
    private static void commands(String readme) throws IOException, InterruptedException {
        List<String> commands = blocks(readme, "sh");
        CHECK.that("README.md", commands.contains(ALL_TESTS), "does not tell how to run all tests");
        Path room = Files.createTempDirectory("readme");
        Path project = copy(room);
        Files.createSymbolicLink(room.resolve("shared"), SHARED.toRealPath());
        copyAll(TESTS, project.resolve(TESTS));
        Files.copy(README, project.resolve(README));
        for (String command : commands) {
            Run run = new Run(project, "sh", "-e", "-c", command);
            CHECK.that(command, run.code == 0, "ends with " + run.code + ": " + run.output);
            if (command.equals(ALL_TESTS)) {
                allRan(run.output);
            }
        }
        remove(room);
    }

    private static void allRan(String output) throws IOException {
        List<String> names = testNames(TESTS);
        try (Stream<Path> files = Files.list(SHARED.resolve("tests"))) {
            files.map(file -> file.getFileName().toString()).filter(name -> name.endsWith(".java"))
                .forEach(name -> names.add(name.substring(0, name.length() - 5)));
        }
        for (String name : names) {
            CHECK.that(".ci/run", Arrays.asList(output.split("\n")).contains("ok: " + name), "did not run " + name);
        }
    }

    private static void failures() throws IOException, InterruptedException {
        String passing = "System.out.println(HoldTwo.NONE);";
        String failing = "System.exit(1);";
        String throwing = "throw new IllegalStateException();";
        String nonsense = "nonsense";
        CHECK.due("all is well", ciOf(passing, passing), 0);
        CHECK.due("a test of the project fails", ciOf(failing, passing), 1);
        CHECK.due("a test of the project throws", ciOf(throwing, passing), 1);
        CHECK.due("a test of the project is none", ciOf(nonsense, passing), 1);
        CHECK.due("a shared test fails", ciOf(passing, failing), 1);
        CHECK.due("a shared test is none", ciOf(passing, nonsense), 1);
    }

    /** The exit code of .ci/run in a project with one test, and one shared test, of which these are the bodies. */
    private static int ciOf(String own, String shared) throws IOException, InterruptedException {
        Path room = Files.createTempDirectory("readme");
        Path project = copy(room);
        Files.createDirectories(room.resolve("shared/tests"));
        Files.createDirectories(project.resolve(TESTS));
        Files.writeString(project.resolve(TESTS).resolve("OwnTest.java"), test("OwnTest", own));
        Files.writeString(room.resolve("shared/tests/Shared.java"), test("Shared", shared));
        int code = new Run(project, "sh", CI.toString()).code;
        remove(room);
        return code;
    }

    private static String test(String name, String body) {
        return "public class " + name + " { public static void main(String[] args) { " + body + " } }";
    }

    /** A project with the class and .ci/run. */
    private static Path copy(Path room) throws IOException {
        Path project = room.resolve("main");
        Files.createDirectories(project.resolve(MAIN).getParent());
        Files.createDirectories(project.resolve(CI).getParent());
        Files.copy(MAIN, project.resolve(MAIN));
        Files.copy(CI, project.resolve(CI));
        CHECK.that(".ci/run", Files.isExecutable(CI) && project.resolve(CI).toFile().setExecutable(true), "is not executable");
        return project;
    }

    private static void copyAll(Path from, Path to) throws IOException {
        Files.createDirectories(to);
        try (Stream<Path> files = Files.list(from)) {
            for (Path file : files.toList()) {
                Files.copy(file, to.resolve(file.getFileName()));
            }
        }
    }

    private static void remove(Path room) throws IOException {
        try (Stream<Path> files = Files.walk(room)) {
            files.sorted(Comparator.reverseOrder()).map(Path::toFile).forEach(File::delete);
        }
    }

    /** A command that was run, what it printed and its exit code. */
    private static final class Run {
        private final String output;
        private final int code;

        Run(Path where, String... command) throws IOException, InterruptedException {
            ProcessBuilder builder = new ProcessBuilder(command).directory(where.toFile()).redirectErrorStream(true);
            builder.environment().put(WITHIN, "yes");
            Process process = builder.start();
            process.getOutputStream().close();
            output = new String(process.getInputStream().readAllBytes(), StandardCharsets.UTF_8);
            code = process.waitFor();
        }
    }
}
