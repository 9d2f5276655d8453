import java.io.IOException;
import java.lang.reflect.InvocationTargetException;
import java.lang.reflect.Method;
import java.lang.reflect.Modifier;
import java.net.URL;
import java.net.URLClassLoader;
import java.nio.file.DirectoryStream;
import java.nio.file.Files;
import java.nio.file.Path;
import java.util.ArrayList;
import java.util.List;
import java.util.regex.Matcher;
import java.util.regex.Pattern;
import javax.tools.JavaCompiler;
import javax.tools.ToolProvider;

/** What README.md shows of calls and answers is so when it is run; it shows every call, and names every test. */
public final class ReadmeTest {
    private static final Path README = Path.of("README.md");
    private static final Path TESTS = Path.of("src/test/java");
    private static final Pattern SHOWN =
            Pattern.compile("([xy]\\.\\w+\\(.*\\)); +// (-?\\d+|NONE|UNKNOWN|OUTSIDE|NOT|FULL)(: .*)?");

    private static final List<String> CALLS = new ArrayList<>();
    private static final List<String> DUE = new ArrayList<>();

    public static void main(String[] args) throws Exception {
        List<String> page = Files.readAllLines(README);
        String program = programOf(codeOf(page));
        Check.due("some calls are shown with their answers", CALLS.size() > 40 ? 1 : 0, 1);
        showsEveryCall(program);
        namesEveryTest(String.join("\n", page));
        run(program);
        Check.end();
    }

    private static List<String> codeOf(List<String> page) {
        List<String> code = new ArrayList<>();
        boolean isCode = false;
        for (String line : page) {
            if (line.startsWith("```")) {
                isCode = line.equals("```java");
            } else if (isCode) {
                code.add(line);
            }
        }
        return code;
    }

    /** Every call that is shown with its answer hands this on; the other lines are run as they stand. */
    private static String programOf(List<String> code) {
        StringBuilder s = new StringBuilder("public final class Shown {\n");
        s.append("    public static void run(java.util.List<Integer> answers) {\n");
        for (String line : code) {
            Matcher m = SHOWN.matcher(line);
            if (m.matches()) {
                CALLS.add(m.group(1));
                DUE.add(m.group(2));
                s.append("        answers.add(").append(m.group(1)).append(");\n");
            } else {
                Check.due("README tells no answer that is not read: " + line, line.contains("//") ? 1 : 0, 0);
                s.append("        ").append(line).append('\n');
            }
        }
        return s.append("    }\n}\n").toString();
    }

    private static int numberOf(String answer) throws ReflectiveOperationException {
        return Character.isLetter(answer.charAt(0))
                ? ThreeBelow.class.getField(answer).getInt(null)
                : Integer.parseInt(answer);
    }

    private static void showsEveryCall(String program) {
        for (Method m : ThreeBelow.class.getDeclaredMethods()) {
            if (Modifier.isPublic(m.getModifiers())) {
                boolean isShown = program.contains("x." + m.getName() + "(") || program.contains("y." + m.getName() + "(");
                Check.due("README shows " + m.getName(), isShown ? 1 : 0, 1);
            }
        }
    }

    private static void namesEveryTest(String page) throws IOException {
        Check.due("README tells how to run the tests", page.contains("    .ci/run\n") ? 1 : 0, 1);
        try (DirectoryStream<Path> tests = Files.newDirectoryStream(TESTS, "*Test.java")) {
            for (Path test : tests) {
                String name = test.getFileName().toString().replace(".java", "");
                Check.due("README names " + name, page.contains("| `" + name + "` |") ? 1 : 0, 1);
            }
        }
    }

    private static void run(String program) throws Exception {
        JavaCompiler compiler = ToolProvider.getSystemJavaCompiler();
        if (compiler == null) {
            Check.due("there is a compiler", 0, 1);
            return;
        }
        Path folder = Files.createTempDirectory("readme");
        Path source = folder.resolve("Shown.java");
        Path made = folder.resolve("Shown.class");
        try {
            Files.writeString(source, program);
            int exit = compiler.run(null, null, null, "--release", "17", "-cp", System.getProperty("java.class.path"),
                    "-d", folder.toString(), source.toString());
            Check.due("README's code compiles", exit, 0);
            if (exit == 0) {
                call(folder);
            }
        } finally {
            Files.deleteIfExists(made);
            Files.deleteIfExists(source);
            Files.deleteIfExists(folder);
        }
    }

    private static void call(Path folder) throws Exception {
        List<Integer> answers = new ArrayList<>();
        URL[] place = {folder.toUri().toURL()};
        try (URLClassLoader loader = new URLClassLoader(place, ReadmeTest.class.getClassLoader())) {
            loader.loadClass("Shown").getMethod("run", List.class).invoke(null, answers);
        } catch (InvocationTargetException e) {
            e.printStackTrace(System.out);
        }
        Check.due("answers of README's code", answers.size(), CALLS.size());
        for (int i = 0; i < answers.size() && i < CALLS.size(); i++) {
            Check.due("README: " + CALLS.get(i), answers.get(i), numberOf(DUE.get(i)));
        }
    }
}
