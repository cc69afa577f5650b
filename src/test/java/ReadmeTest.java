import java.io.IOException;
import java.nio.file.Files;
import java.nio.file.Path;
import java.util.ArrayList;
import java.util.Comparator;
import java.util.List;
import java.util.regex.Matcher;
import java.util.regex.Pattern;
import java.util.stream.Stream;

/** What README.md says of the use of the class and of running the tests, followed as it stands. */
public final class ReadmeTest extends Tests {
    private static final Path MAIN = Path.of("src/main/java/AeadBox.java");
    private static final Path HERE = Path.of("").toAbsolutePath();
    private static final Pattern ANSWERED = Pattern.compile("(box\\..*); +// (-?\\w+)(:.*)?");

    private final Readme readme = new Readme();
    private final Path own;

    private ReadmeTest(Path own) {
        this.own = own;
    }

    public static void main(String[] args) throws IOException, IllegalAccessException {
        Path own = Files.createTempDirectory("readme");
        // The end of a failed test leaves by System.exit(), which this outlives.
        Runtime.getRuntime().addShutdownHook(new Thread(() -> remove(own)));
        new ReadmeTest(own).runAll();
    }

    void everyCallAnswersAsIsToldBehindIt() throws IOException, InterruptedException {
        dueAnswers("AeadBox");
    }

    void theModelOfThePromisesAnswersSoToo() throws IOException, InterruptedException {
        dueAnswers("ModelBox");
    }

    void theProgramPrintsWhatIsTold() throws IOException, InterruptedException {
        Path directory = directory("whole-rows");
        Files.copy(MAIN, directory.resolve("AeadBox.java"));
        Files.writeString(directory.resolve("Example.java"), readme.blockWith("java", "class Example"));
        String printed = run(directory, readme.blockWith("sh", "java Example"));
        dueText("Example prints", printed, readme.blockWith("text", "opened"));
    }

    void oneTestClassRunsAlone() throws IOException, InterruptedException {
        String printed = run(HERE, readme.blockWith("sh", "Promise06DataTest"));
        due("Promise06DataTest ends well: " + printed, printed.contains("answers are as due"), true);
    }

    void allTestsAreRunByAScript() {
        String script = readme.blockWith("sh", ".ci/run").strip();
        due(script + " can be run", Files.isExecutable(Path.of(script)), true);
    }

    void everyTestClassThatIsNamedIsThere() throws IOException {
        Matcher named = Pattern.compile("`(\\w+Test)`").matcher(Files.readString(Path.of("README.md")));
        int names = 0;
        while (named.find()) {
            names++;
            Path file = Path.of("src/test/java", named.group(1) + ".java");
            due("there is " + file, Files.exists(file), true);
        }
        due("test classes are named", names > 0, true);
    }

    /** Makes the calls of all blocks in one program, on a box of this class. */
    private void dueAnswers(String boxClass) throws IOException, InterruptedException {
        List<String> due = new ArrayList<>();
        StringBuilder program = new StringBuilder("class Calls { public static void main(String[] args) {\n");
        for (String block : readme.blocksWith("java", "box.begin(")) {
            if (!block.contains("class Example")) {
                block.lines().forEach(line -> program.append(printing(line, due)).append('\n'));
            }
        }
        program.append("} }\n");
        String answers = runCalls(boxClass, program.toString().replace("AeadBox", boxClass));
        due("there are answers", due.size() > 30, true);
        dueText(boxClass + " answers", answers, String.join("\n", due) + "\n");
    }

    /** The line, so that the answer told behind its call is printed. */
    private static String printing(String line, List<String> due) {
        Matcher call = ANSWERED.matcher(line);
        if (!call.matches()) {
            return line;
        }
        due.add(call.group(1) + " " + call.group(2));
        return "System.out.println(\"" + call.group(1) + " \" + " + call.group(1) + ");";
    }

    private String runCalls(String boxClass, String program) throws IOException, InterruptedException {
        Path directory = directory("calls-" + boxClass);
        Files.writeString(directory.resolve("Calls.java"), program);
        String classes = Path.of(System.getProperty("java.class.path")).toAbsolutePath().toString();
        return run(directory, "javac -cp '" + classes + "' Calls.java\njava -cp '" + classes + ":.' Calls\n");
    }

    private void dueText(String what, String got, String want) {
        due(what + "\n" + got + "README.md says\n" + want + "and that it is so", got.equals(want), true);
    }

    private Path directory(String name) throws IOException {
        return Files.createDirectory(own.resolve(name));
    }

    /** Runs lines of a shell and answers what they print; what they leave in temporary places is removed in the end. */
    private String run(Path directory, String lines) throws IOException, InterruptedException {
        ProcessBuilder shell = new ProcessBuilder("sh", "-e", "-c", lines);
        shell.directory(directory.toFile()).redirectError(ProcessBuilder.Redirect.INHERIT);
        shell.environment().put("TMPDIR", own.toString());
        Process process = shell.start();
        String printed = new String(process.getInputStream().readAllBytes());
        due("exit code of\n" + lines + "which printed\n" + printed, process.waitFor(), 0);
        return printed;
    }

    private static void remove(Path directory) {
        try (Stream<Path> paths = Files.walk(directory)) {
            paths.sorted(Comparator.reverseOrder()).forEach(path -> path.toFile().delete());
        } catch (IOException e) {
            System.err.println("can't remove " + directory + ": " + e);
        }
    }
}
