import java.io.IOException;
import java.lang.reflect.Method;
import java.lang.reflect.Modifier;
import java.nio.file.Files;
import java.nio.file.Path;
import java.nio.file.StandardCopyOption;
import java.util.ArrayList;
import java.util.Comparator;
import java.util.List;
import java.util.TreeSet;
import java.util.regex.Matcher;
import java.util.regex.Pattern;
import java.util.stream.Stream;

/**
 * README.md says what is so: its example prints what is written there, its commands run as written, its
 * table has the class's calls, its list has the tests that are there.
 */
public final class ReadmeTest {
    private static final Path ROOT = Path.of("").toAbsolutePath();
    private static final Path TESTS = Path.of("src", "test", "java");
    private static final String CI = ".ci/run\n";
    private static final Pattern BLOCK = Pattern.compile("^```(\\w+)\n(.*?)^```$", Pattern.MULTILINE | Pattern.DOTALL);
    private static final Pattern ROW = Pattern.compile("^\\| `(.*?)` \\| (.*) \\|(.*)\\|$", Pattern.MULTILINE);
    private static final Pattern CLASS_NAME = Pattern.compile("public final class (\\w+)");
    private static final Pattern TEST_NAME = Pattern.compile("`(\\w+Test)`");

    private record Block(String language, String text) {
    }

    private record Ran(int exit, String printed) {
    }

    public static void main(String[] args) throws IOException, InterruptedException {
        String readme = Files.readString(ROOT.resolve("README.md"));
        table(readme);
        listOfTests(readme);
        Path room = Files.createTempDirectory("readme");
        try {
            exampleAndCommands(blocksIn(readme), copyInto(room.resolve("whole")));
            commandForAllTests(blocksIn(readme), copyInto(room.resolve("small")));
        } finally {
            remove(room);
        }
        Check.finish();
    }

    // ---- what is written ----

    private static void table(String readme) {
        TreeSet<String> written = new TreeSet<>();
        Matcher row = ROW.matcher(readme);
        while (row.find()) {
            written.add(row.group(1).replaceAll(" \\w+(?=[,)])", "") + " " + row.group(3).strip());
        }
        TreeSet<String> due = new TreeSet<>();
        for (Method method : ThesisDesk.class.getDeclaredMethods()) {
            if (Modifier.isPublic(method.getModifiers())) {
                due.add(signature(method) + " " + thrownBy(method));
            }
        }
        Check.due("the table of calls", written.toString(), due.toString());
    }

    private static String signature(Method method) {
        List<String> types = new ArrayList<>();
        for (Class<?> type : method.getParameterTypes()) {
            types.add(type.getName());
        }
        return method.getReturnType() + " " + method.getName() + "(" + String.join(", ", types) + ")";
    }

    private static String thrownBy(Method method) {
        List<String> letters = new ArrayList<>();
        for (Class<?> type : method.getExceptionTypes()) {
            letters.add(type == IllegalArgumentException.class ? "A" : "S");
        }
        return String.join(", ", letters);
    }

    private static void listOfTests(String readme) throws IOException {
        TreeSet<String> written = new TreeSet<>();
        Matcher name = TEST_NAME.matcher(readme);
        while (name.find()) {
            written.add(name.group(1));
        }
        TreeSet<String> due = namesIn(ROOT.resolve(TESTS));
        due.removeIf(file -> !file.endsWith("Test"));
        Check.due("the list of tests", written.toString(), due.toString());
    }

    private static TreeSet<String> namesIn(Path directory) throws IOException {
        TreeSet<String> names = new TreeSet<>();
        try (Stream<Path> files = Files.list(directory)) {
            for (Path file : files.toList()) {
                names.add(file.getFileName().toString().replace(".java", ""));
            }
        }
        return names;
    }

    private static List<Block> blocksIn(String readme) {
        List<Block> blocks = new ArrayList<>();
        Matcher block = BLOCK.matcher(readme);
        while (block.find()) {
            blocks.add(new Block(block.group(1), block.group(2)));
        }
        return blocks;
    }

    // ---- what is run ----

    /** A program is saved under its name, commands are run, a text is what the commands before it print. */
    private static void exampleAndCommands(List<Block> blocks, Path copy) throws IOException, InterruptedException {
        int programs = 0;
        int commands = 0;
        int texts = 0;
        String printed = "";
        for (Block block : blocks) {
            if (block.language().equals("java")) {
                save(block.text(), copy);
                programs++;
            } else if (block.language().equals("text")) {
                Check.due("what is printed", printed, block.text());
                texts++;
            } else if (!block.text().equals(CI)) {
                printed = runWell(block.text(), copy);
                commands++;
            }
        }
        Check.due("programs in README.md", programs, 1);
        Check.due("texts in README.md", texts, 1);
        Check.due("blocks of commands beside " + CI, commands, 3);
    }

    private static void save(String program, Path copy) throws IOException {
        Matcher name = CLASS_NAME.matcher(program);
        Check.due("the program has a class with a name", name.find(), true);
        Files.writeString(copy.resolve(name.group(1) + ".java"), program);
    }

    /** In a copy with few tests, without this one: else it would run itself again and again. */
    private static void commandForAllTests(List<Block> blocks, Path copy) throws IOException, InterruptedException {
        Check.due("README.md gives the command for all tests", blocks.contains(new Block("sh", CI)), true);
        keepOnly(copy.resolve(TESTS), List.of("Check.java", "FaceTest.java"));
        String printed = runWell(CI, copy);
        Check.due("all tests are told to pass", printed.endsWith("all tests pass\n"), true);
        for (String name : namesIn(ROOT.resolve("../shared/tests"))) {
            Check.due(name + " under ../shared/tests is run", printed.contains("== " + name + "\n"), true);
        }
        Files.writeString(copy.resolve(TESTS).resolve("FailingTest.java"),
            "public final class FailingTest { public static void main(String[] args) { System.exit(1); } }\n");
        Ran failed = run(CI, copy);
        Check.due("exit code with a test that fails", failed.exit(), 1);
        Check.due("the test that fails is told", failed.printed().contains("FAILED: FailingTest\n"), true);
    }

    private static String runWell(String commands, Path directory) throws IOException, InterruptedException {
        Ran ran = run(commands, directory);
        Check.due("exit code of " + commands + ran.printed(), ran.exit(), 0);
        return ran.printed();
    }

    private static Ran run(String commands, Path directory) throws IOException, InterruptedException {
        Process process = new ProcessBuilder("sh", "-e", "-c", commands)
            .directory(directory.toFile()).redirectErrorStream(true).start();
        process.getOutputStream().close();
        String printed = new String(process.getInputStream().readAllBytes());
        return new Ran(process.waitFor(), printed);
    }

    // ---- copies of the checkout, beside a link to what is shared ----

    private static Path copyInto(Path room) throws IOException {
        Path copy = room.resolve("main");
        Files.createDirectories(copy);
        Files.createSymbolicLink(room.resolve("shared"), ROOT.resolve("../shared").toRealPath());
        copyTree(Path.of("src"), copy);
        copyTree(Path.of(".ci"), copy);
        return copy;
    }

    private static void copyTree(Path tree, Path copy) throws IOException {
        try (Stream<Path> files = Files.walk(ROOT.resolve(tree))) {
            for (Path file : files.filter(Files::isRegularFile).toList()) {
                Path to = copy.resolve(ROOT.relativize(file));
                Files.createDirectories(to.getParent());
                Files.copy(file, to, StandardCopyOption.COPY_ATTRIBUTES);
            }
        }
    }

    private static void keepOnly(Path directory, List<String> names) throws IOException {
        try (Stream<Path> files = Files.list(directory)) {
            for (Path file : files.toList()) {
                if (!names.contains(file.getFileName().toString())) {
                    Files.delete(file);
                }
            }
        }
    }

    private static void remove(Path room) throws IOException {
        try (Stream<Path> files = Files.walk(room)) {
            for (Path file : files.sorted(Comparator.reverseOrder()).toList()) {
                Files.delete(file);
            }
        }
    }
}
