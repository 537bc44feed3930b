import java.io.IOException;
import java.lang.reflect.Method;
import java.lang.reflect.Modifier;
import java.nio.file.Files;
import java.nio.file.Path;
import java.util.ArrayList;
import java.util.List;
import java.util.TreeSet;
import java.util.regex.Matcher;
import java.util.regex.Pattern;
import java.util.stream.Collectors;
import java.util.stream.Stream;

/** What README.md says is true: its commands run, its calls answer what it shows, and its table names all tests. */
public final class ReadmeTest {
    private static final Path CALLS = Path.of("build", "readme", "ReadmeCalls.java");
    /** A call, with the name that its answer gets, and the answer in a comment, with a reason or without. */
    private static final Pattern CALL = Pattern.compile("(?:int (\\w+) = )?(server\\.\\w+\\(.*\\)); +// ([^:]+)(?:: .+)?");
    private static final Check CHECK = new Check();

    private record Ran(int exitCode, List<String> lines) {
    }

    public static void main(String[] args) throws IOException, InterruptedException {
        String page = Files.readString(Path.of("README.md"));
        commandsRun(page);
        callsAnswerWhatIsShown(page);
        everyMethodIsShown(page);
        tableNamesAllTests(page);
        CHECK.end();
    }

    private static void commandsRun(String page) throws IOException, InterruptedException {
        List<String> commands = linesOfBlocks(page, "sh");
        CHECK.same("commands are shown", commands.isEmpty(), false);
        for (String command : commands) {
            // .ci/run is what runs this test.
            if (command.equals(".ci/run")) {
                CHECK.same(".ci/run can be run", Files.isExecutable(Path.of(command)), true);
            } else {
                CHECK.same("the exit code of " + command, run("sh", "-c", command).exitCode, 0);
            }
        }
    }

    /** Makes a program of the calls and runs it on the class path that the page tells to use. */
    private static void callsAnswerWhatIsShown(String page) throws IOException, InterruptedException {
        List<String> program = new ArrayList<>(List.of("class ReadmeCalls { public static void main(String[] args) {"));
        List<String> calls = new ArrayList<>();
        List<String> due = new ArrayList<>();
        for (String line : linesOfBlocks(page, "java")) {
            Matcher parts = CALL.matcher(line);
            if (parts.matches()) {
                calls.add(parts.group(2));
                due.add(parts.group(3).replace("'", ""));
                program.add(parts.group(1) == null ? printing(parts.group(2)) : naming(parts.group(1), parts.group(2)));
            } else {
                CHECK.same("a line without an answer", line, "TileServer server = new TileServer();");
                program.add(line);
            }
        }
        program.add("} }");
        Files.createDirectories(CALLS.getParent());
        Files.write(CALLS, program);
        CHECK.same("calls are shown", calls.isEmpty(), false);
        List<String> got = run("java", "-cp", "out", CALLS.toString()).lines;
        CHECK.same("the number of answers of " + got, got.size(), due.size());
        for (int i = 0; i < Math.min(got.size(), due.size()); i++) {
            CHECK.same(calls.get(i), got.get(i), due.get(i));
        }
    }

    private static String naming(String name, String call) {
        return "int " + name + " = " + call + "; System.out.println(" + name + ");";
    }

    private static String printing(String call) {
        return "try { System.out.println(" + call + "); }"
            + " catch (RuntimeException e) { System.out.println(\"throws \" + e.getClass().getSimpleName()); }";
    }

    private static void everyMethodIsShown(String page) {
        for (Method method : TileServer.class.getDeclaredMethods()) {
            if (Modifier.isPublic(method.getModifiers())) {
                CHECK.same(method.getName() + " is shown", page.contains("server." + method.getName() + "("), true);
            }
        }
    }

    private static void tableNamesAllTests(String page) throws IOException {
        TreeSet<String> named = new TreeSet<>();
        Matcher rows = Pattern.compile("(?m)^\\| `(\\w+)` \\|").matcher(page);
        while (rows.find()) {
            named.add(rows.group(1) + ".java");
        }
        try (Stream<Path> files = Files.list(Path.of("src", "test", "java"))) {
            TreeSet<String> tests = files.map(file -> file.getFileName().toString())
                .filter(name -> name.endsWith("Test.java")).collect(Collectors.toCollection(TreeSet::new));
            CHECK.same("the tests in the table", named, tests);
        }
    }

    private static List<String> linesOfBlocks(String page, String language) {
        List<String> lines = new ArrayList<>();
        Matcher blocks = Pattern.compile("(?ms)^```" + language + "\n(.*?)^```$").matcher(page);
        while (blocks.find()) {
            lines.addAll(blocks.group(1).lines().toList());
        }
        return lines;
    }

    private static Ran run(String... command) throws IOException, InterruptedException {
        Process process = new ProcessBuilder(command).redirectErrorStream(true).start();
        List<String> lines = new String(process.getInputStream().readAllBytes()).lines().toList();
        return new Ran(process.waitFor(), lines);
    }
}
