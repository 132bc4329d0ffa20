import java.io.IOException;
import java.lang.reflect.Method;
import java.lang.reflect.Modifier;
import java.net.URL;
import java.net.URLClassLoader;
import java.nio.file.Files;
import java.nio.file.Path;
import java.util.ArrayList;
import java.util.Comparator;
import java.util.List;
import java.util.Set;
import java.util.TreeSet;
import java.util.regex.Matcher;
import java.util.regex.Pattern;
import java.util.stream.Stream;
import javax.tools.ToolProvider;

/** What README.md says is so: its examples compile and answer as told, its commands run, its calls and tests exist. */
public final class ReadmeTest {
    private static final Path README = Path.of("README.md");
    private static final Path SOURCES = Path.of("src");

    private static final Pattern BLOCK = Pattern.compile("(?ms)^```(\\w+)\\n(.*?)^```$");
    private static final Pattern ANSWERED = Pattern.compile("(\\w+\\.\\w+\\(.*\\)); +// (throws \\w+|-?[0-9.]+): .+");
    private static final Pattern CALL = Pattern.compile("(?m)^- `(\\w+)\\(([^)]*)\\)`");
    private static final Pattern TEST = Pattern.compile("`(\\w+Test)`");

    /** It can't be run from here, since it runs this test; that this runs shows that it does. */
    private static final String RUN_ALL = ".ci/run";

    private final Checks c = new Checks("README.md: ");
    private final String page;
    private final Path room;

    private ReadmeTest(String page, Path room) {
        this.page = page;
        this.room = room;
    }

    public static void main(String[] args) throws Exception {
        Path room = Files.createTempDirectory("readme");
        ReadmeTest test = new ReadmeTest(Files.readString(README), room);
        try {
            test.dueExamples();
            test.dueCommands();
            test.dueCalls();
            test.dueTests();
        } finally {
            remove(room);
        }
        test.c.end();
    }

    private List<String> blocks(String language) {
        List<String> blocks = new ArrayList<>();
        Matcher block = BLOCK.matcher(page);
        while (block.find()) {
            if (block.group(1).equals(language)) {
                blocks.add(block.group(2));
            }
        }
        return blocks;
    }

    private void dueExamples() throws Exception {
        List<String> examples = blocks("java");
        StringBuilder shown = new StringBuilder();
        for (int k = 0; k < examples.size(); k++) {
            dueExample("ReadmeExample" + k, examples.get(k));
            shown.append(examples.get(k));
        }
        for (String name : publicCalls()) {
            String call = "slope." + name.substring(0, name.indexOf('(') + 1);
            c.due("an example shows " + call + "..)", shown.indexOf(call) >= 0 ? 1 : 0, 1);
        }
    }

    /** Every line of an example but the one that makes the slope is a call with its answer. */
    private void dueExample(String name, String example) throws Exception {
        List<String> calls = new ArrayList<>();
        List<String> due = new ArrayList<>();
        StringBuilder body = new StringBuilder();
        for (String line : example.lines().filter(told -> !told.isBlank()).toList()) {
            Matcher answered = ANSWERED.matcher(line);
            if (answered.matches()) {
                calls.add(answered.group(1));
                due.add(answered.group(2));
                body.append("try { got.add(String.valueOf(").append(answered.group(1)).append(")); }\n")
                    .append("catch (RuntimeException e) { got.add(\"throws \" + e.getClass().getSimpleName()); }\n");
            } else {
                body.append(line).append('\n');
                c.due("without an answer: " + line, line.contains(" = new PaddyTerraces();") ? 1 : 0, 1);
            }
        }
        List<?> got = answersOf(name, example, body.toString());
        c.due("answers of " + name, got.size(), due.size());
        for (int k = 0; k < Math.min(got.size(), due.size()); k++) {
            if (!got.get(k).equals(due.get(k))) {
                c.tell(calls.get(k) + ", told is " + due.get(k) + ", but it answers " + got.get(k));
            }
        }
    }

    /** The example is compiled twice: as it stands, and with each answer taken. */
    private List<?> answersOf(String name, String asItStands, String body) throws Exception {
        Path file = room.resolve(name + ".java");
        Files.writeString(file, "import java.util.*;\npublic final class " + name + " {\n"
            + "static void asItStands() {\n" + asItStands + "}\n"
            + "public static List<String> answers() {\nList<String> got = new ArrayList<>();\n" + body
            + "return got;\n}\n}\n");
        String classes = System.getProperty("java.class.path");
        int failed = ToolProvider.getSystemJavaCompiler()
            .run(null, null, null, "-d", room.toString(), "-cp", classes, file.toString());
        c.due(name + " compiles (0 if so)", failed, 0);
        if (failed != 0) {
            return List.of();
        }
        try (URLClassLoader loader = new URLClassLoader(new URL[] {room.toUri().toURL()})) {
            return (List<?>) loader.loadClass(name).getMethod("answers").invoke(null);
        }
    }

    /** In a copy of the sources, each command by itself, so that none needs what another left. */
    private void dueCommands() throws IOException, InterruptedException {
        List<String> commands = blocks("sh").stream().flatMap(String::lines).toList();
        c.due("it names " + RUN_ALL, commands.contains(RUN_ALL) ? 1 : 0, 1);
        c.due(RUN_ALL + " can be run", Files.isExecutable(Path.of(RUN_ALL)) ? 1 : 0, 1);
        for (int k = 0; k < commands.size(); k++) {
            if (!commands.get(k).equals(RUN_ALL)) {
                Path copy = room.resolve("copy" + k);
                copySources(copy);
                Process shell = new ProcessBuilder("sh", "-c", commands.get(k)).directory(copy.toFile())
                    .inheritIO().start();
                c.due("exit code of " + commands.get(k), shell.waitFor(), 0);
                c.due("build/PaddyTerraces.class after " + commands.get(k),
                    Files.exists(copy.resolve("build/PaddyTerraces.class")) ? 1 : 0, 1);
            }
        }
    }

    private static void copySources(Path to) throws IOException {
        try (Stream<Path> all = Files.walk(SOURCES)) {
            for (Path one : all.toList()) {
                Path copied = to.resolve(one);
                Files.createDirectories(copied.getParent());
                Files.copy(one, copied);
            }
        }
    }

    /** Its list has each call of the face, with as many parameters, and no other one. */
    private void dueCalls() {
        Set<String> listed = new TreeSet<>();
        Matcher call = CALL.matcher(page);
        while (call.find()) {
            int parameters = call.group(2).isEmpty() ? 0 : call.group(2).split(",").length;
            listed.add(call.group(1) + "(" + parameters + ")");
        }
        if (!listed.equals(publicCalls())) {
            c.tell("its list has " + listed + ", the class has " + publicCalls());
        }
    }

    private static Set<String> publicCalls() {
        Set<String> calls = new TreeSet<>();
        for (Method method : PaddyTerraces.class.getDeclaredMethods()) {
            if (Modifier.isPublic(method.getModifiers())) {
                calls.add(method.getName() + "(" + method.getParameterCount() + ")");
            }
        }
        return calls;
    }

    private void dueTests() {
        Matcher test = TEST.matcher(page);
        while (test.find()) {
            Path file = SOURCES.resolve("test/java").resolve(test.group(1) + ".java");
            c.due("the test " + test.group(1) + " exists", Files.exists(file) ? 1 : 0, 1);
        }
    }

    private static void remove(Path folder) throws IOException {
        try (Stream<Path> all = Files.walk(folder)) {
            for (Path one : all.sorted(Comparator.reverseOrder()).toList()) {
                Files.delete(one);
            }
        }
    }
}
