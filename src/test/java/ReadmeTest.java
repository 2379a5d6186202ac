import java.io.IOException;
import java.lang.reflect.InvocationTargetException;
import java.net.URL;
import java.net.URLClassLoader;
import java.nio.file.Files;
import java.nio.file.Path;
import java.util.ArrayList;
import java.util.List;
import java.util.Set;
import java.util.TreeSet;
import java.util.regex.MatchResult;
import java.util.regex.Matcher;
import java.util.regex.Pattern;
import java.util.stream.Stream;
import javax.tools.ToolProvider;

/** What README.md tells is so: its examples compile and answer as it says, its tables are whole. */
public final class ReadmeTest {
    private static final Due D = new Due();
    private static final Pattern BLOCK = Pattern.compile("(?s)```java\n(.*?)```");
    private static final Pattern CALL = Pattern.compile("(\\w.*\\)); +// (-?\\d+)(: .*)?");
    private static final Path OUT = Path.of("build", "readme");

    public static void main(String[] args) throws IOException, ReflectiveOperationException {
        String page = Files.readString(Path.of("README.md"));
        examples(page);
        acts(page);
        findings(page);
        tests(page);
        commands(page);
        D.end();
    }

    /** Makes one class of the examples: static methods as they are, calls with what is due of them. */
    private static void examples(String page) throws IOException, ReflectiveOperationException {
        StringBuilder methods = new StringBuilder();
        StringBuilder run = new StringBuilder();
        for (MatchResult block : BLOCK.matcher(page).results().toList()) {
            if (block.group(1).startsWith("static ")) {
                methods.append(block.group(1));
            } else {
                block.group(1).lines().forEach(line -> run.append(asked(line)).append('\n'));
            }
        }
        Files.createDirectories(OUT);
        Path source = OUT.resolve("ReadmeExamples.java");
        Files.writeString(source, "final class ReadmeExamples {\n" + methods
            + "static void run(java.util.List<Object[]> answers) {\n" + run + "}\n}\n");
        int exit = ToolProvider.getSystemJavaCompiler().run(null, null, null, "-cp",
            System.getProperty("java.class.path"), "-d", OUT.toString(), source.toString());
        D.due("javac " + source, exit, 0);
        if (exit == 0) {
            answers();
        }
    }

    private static String asked(String line) {
        if (line.equals("WalkTeller teller = new WalkTeller();")) {
            return line;
        }
        Matcher call = CALL.matcher(line);
        D.due("README.md: a call with its answer: " + line, call.matches() ? 1 : 0, 1);
        if (!call.matches()) {
            return "";
        }
        String words = call.group(1).replace("\\", "\\\\").replace("\"", "\\\"");
        return "answers.add(new Object[] {\"" + words + "\", " + call.group(1) + ", " + call.group(2) + "});";
    }

    private static void answers() throws IOException, ReflectiveOperationException {
        List<Object[]> answers = new ArrayList<>();
        try (URLClassLoader loader = new URLClassLoader(new URL[] {OUT.toUri().toURL()})) {
            var run = loader.loadClass("ReadmeExamples").getDeclaredMethod("run", List.class);
            run.setAccessible(true);
            run.invoke(null, answers);
        } catch (InvocationTargetException thrown) {
            D.due("README.md: no example throws, but " + thrown.getCause(), 0, 1);
        }
        for (Object[] answer : answers) {
            D.due("README.md: " + answer[0], (Integer) answer[1], (Integer) answer[2]);
        }
        D.due("README.md has examples", answers.size() > 0 ? 1 : 0, 1);
    }

    /** Each act of the face has an example. */
    private static void acts(String page) {
        for (var method : WalkTeller.class.getMethods()) {
            if (method.getDeclaringClass() == WalkTeller.class) {
                boolean told = page.contains("teller." + method.getName() + "(");
                D.due("README.md: an example of " + method.getName(), told ? 1 : 0, 1);
            }
        }
    }

    private static void findings(String page) throws ReflectiveOperationException {
        Matcher row = Pattern.compile("\\| ([A-Z]+) \\| (-\\d+) \\|").matcher(page);
        int rows = 0;
        for (; row.find(); rows++) {
            D.due("README.md: " + row.group(1), Integer.parseInt(row.group(2)),
                Due.class.getDeclaredField(row.group(1)).getInt(null));
        }
        D.due("README.md: findings", rows, 8);
    }

    /** The table of tests has those that there are, and no other ones. */
    private static void tests(String page) throws IOException {
        Set<String> told = new TreeSet<>();
        Matcher row = Pattern.compile("\\| (\\w+Test) \\|").matcher(page);
        while (row.find()) {
            told.add(row.group(1));
        }
        Set<String> there = new TreeSet<>();
        try (Stream<Path> files = Files.list(Path.of("src", "test", "java"))) {
            files.map(file -> file.getFileName().toString()).filter(name -> name.endsWith("Test.java"))
                .forEach(name -> there.add(name.replace(".java", "")));
        }
        D.due("README.md: the tests " + told + ", there are " + there, told.equals(there) ? 1 : 0, 1);
    }

    /** What the page's commands name is there, and .ci/run can be run. */
    private static void commands(String page) {
        D.due("README.md: .ci/run", page.contains("\n    .ci/run\n") ? 1 : 0, 1);
        D.due(".ci/run can be run", Files.isExecutable(Path.of(".ci", "run")) ? 1 : 0, 1);
        Matcher compile = Pattern.compile("\n    javac -d [\\w/]+ (\\S+)\n").matcher(page);
        boolean there = compile.find() && Files.exists(Path.of(compile.group(1)));
        D.due("README.md: how to compile", there ? 1 : 0, 1);
    }
}
