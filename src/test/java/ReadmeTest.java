import java.lang.reflect.Method;
import java.net.URL;
import java.net.URLClassLoader;
import java.nio.file.Files;
import java.nio.file.Path;
import java.util.ArrayList;
import java.util.List;
import java.util.Map;
import java.util.TreeMap;
import java.util.regex.Matcher;
import java.util.regex.Pattern;
import java.util.stream.Stream;
import javax.tools.ToolProvider;

/** What README.md says holds: the calls that it shows, the commands and the files that it names. */
public final class ReadmeTest {

    private static final Dues DUES = new Dues();
    private static final String MADE = "RopesAtDawn x = new RopesAtDawn();";
    private static final Pattern CALL = Pattern.compile("x\\.(\\w+)(\\(.*\\)); +// (-?\\d+)");
    private static final Pattern TEST_NAME = Pattern.compile("`(\\w+Test)`");
    private static final Path TESTS = Path.of("src/test/java");

    public static void main(String[] args) throws Exception {
        String readme = Files.readString(Path.of("README.md"));
        askShown(linesOf(readme, "java"));
        lookAtCommands(linesOf(readme, "sh"));
        lookAtTests(readme);
        DUES.end("ReadmeTest");
    }

    /** The lines of all blocks of a language, in their order. */
    private static List<String> linesOf(String readme, String language) {
        List<String> lines = new ArrayList<>();
        boolean inside = false;
        for (String line : readme.split("\n")) {
            if (line.startsWith("```")) {
                inside = line.equals("```" + language);
            } else if (inside && !line.isBlank()) {
                lines.add(line);
            }
        }
        return lines;
    }

    /** The blocks are compiled as they stand, as a reader would, and each call's answer is kept. */
    private static void askShown(List<String> lines) throws Exception {
        DUES.due("README's first line of Java", lines.get(0), MADE);
        StringBuilder calls = new StringBuilder();
        List<String> shown = new ArrayList<>();
        List<Integer> wanted = new ArrayList<>();
        Map<String, Integer> missing = new TreeMap<>(Script.acts());
        for (String line : lines.subList(1, lines.size())) {
            Matcher m = CALL.matcher(line);
            boolean call = m.matches();
            DUES.due("README's line is a call with its answer: " + line, call, true);
            if (call) {
                calls.append("answers[").append(shown.size()).append("] = x.").append(m.group(1)).append(m.group(2)).append(";\n");
                shown.add(m.group(1) + m.group(2));
                wanted.add(Integer.valueOf(m.group(3)));
                missing.remove(m.group(1));
            }
        }
        DUES.due("calls that README.md doesn't show", missing.keySet().toString(), "[]");
        int[] answers = new int[shown.size()];
        run("public final class Shown { public static void ask(int[] answers) {\n" + MADE + "\n" + calls + "} }\n", answers);
        for (int i = 0; i < answers.length; i++) {
            DUES.due("README: " + shown.get(i), answers[i], wanted.get(i));
        }
    }

    private static void run(String source, int[] answers) throws Exception {
        Path out = Files.createTempDirectory("readme");
        Path file = Files.writeString(out.resolve("Shown.java"), source);
        int compiled = ToolProvider.getSystemJavaCompiler().run(null, null, null, "-d", out.toString(),
            "-cp", System.getProperty("java.class.path"), file.toString());
        DUES.due("README's calls compile", compiled, 0);
        if (compiled == 0) {
            try (URLClassLoader loader = new URLClassLoader(new URL[] {out.toUri().toURL()})) {
                Method ask = loader.loadClass("Shown").getMethod("ask", int[].class);
                ask.invoke(null, (Object) answers);
            }
        }
        Files.deleteIfExists(out.resolve("Shown.class"));
        Files.delete(file);
        Files.delete(out);
    }

    private static void lookAtCommands(List<String> commands) throws Exception {
        DUES.due("README's commands", commands.toString(), "[javac -d out src/main/java/RopesAtDawn.java, .ci/run]");
        DUES.due("the class's file is there", Files.isRegularFile(Path.of("src/main/java/RopesAtDawn.java")), true);
        DUES.due(".ci/run may be run", Files.isExecutable(Path.of(".ci/run")), true);
        String script = Files.readString(Path.of(".ci/run"));
        DUES.due(".ci/run runs the project's tests", script.contains("src/test/java/*Test.java"), true);
        DUES.due(".ci/run runs the shared tests", script.contains("../shared/tests"), true);
    }

    private static void lookAtTests(String readme) throws Exception {
        List<String> named = new ArrayList<>();
        Matcher m = TEST_NAME.matcher(readme);
        while (m.find()) {
            named.add(m.group(1));
            DUES.due("there is " + m.group(1), Files.isRegularFile(TESTS.resolve(m.group(1) + ".java")), true);
        }
        try (Stream<Path> files = Files.list(TESTS)) {
            for (Path file : files.toList()) {
                String name = file.getFileName().toString().replace(".java", "");
                DUES.due("README.md names " + name, !name.endsWith("Test") || named.contains(name), true);
            }
        }
    }
}
