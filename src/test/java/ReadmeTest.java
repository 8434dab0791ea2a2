import java.io.File;
import java.io.IOException;
import java.lang.reflect.Field;
import java.lang.reflect.Method;
import java.lang.reflect.Modifier;
import java.net.URL;
import java.net.URLClassLoader;
import java.nio.file.Files;
import java.nio.file.Path;
import java.util.ArrayList;
import java.util.Comparator;
import java.util.List;
import java.util.regex.Matcher;
import java.util.regex.Pattern;
import java.util.stream.Stream;
import javax.tools.ToolProvider;

/** What README.md shows is so: its calls answer what stands behind them, and it leaves out no call and no test. */
public final class ReadmeTest {
    private static final Pattern CALL_WITH_ANSWER =
        Pattern.compile("\\s*(town\\.\\w+\\(.*\\));\\s*// (true|false|-?\\d+|[A-Z_]+)(: .+)?");
    private static final String EXAMPLE = "ReadmeExample";

    private ReadmeTest() {
    }

    public static void main(String[] args) {
        Checks.runAll(ReadmeTest.class);
    }

    static void callsAnswerWhatStandsBehindThem() throws Exception {
        List<String> lines = javaLines();
        Checks.due("README.md has an example", lines.isEmpty(), false);
        Path folder = Files.createTempDirectory("readme");
        try {
            compileAndRun(program(lines), folder);
        } finally {
            delete(folder);
        }
    }

    static void namesEveryCall() throws IOException {
        String readme = readme();
        for (Method method : ScrollTown.class.getDeclaredMethods()) {
            if (Modifier.isPublic(method.getModifiers())) {
                String name = method.getName();
                Checks.due("README.md tells of " + name, readme.contains("| `" + name + "("), true);
                Checks.due("README.md shows " + name, readme.contains("town." + name + "("), true);
            }
        }
    }

    static void namesEveryConstantWithItsValue() throws Exception {
        String readme = readme();
        for (Field field : ScrollTown.class.getFields()) {
            String row = "| `" + field.getName() + "` | " + field.getInt(null) + " |";
            Checks.due("README.md has the row " + row, readme.contains(row), true);
        }
    }

    static void namesEveryTest() throws IOException {
        String readme = readme();
        Checks.due("README.md says how to run the tests", readme.contains("bash .ci/run"), true);
        Checks.due(".ci/run can be run", Files.isExecutable(Path.of(".ci/run")), true);
        for (String name : new File("src/test/java").list()) {
            String plain = name.replace(".java", "");
            Checks.due("README.md tells of " + plain, readme.contains("`" + plain + "`"), true);
        }
        Matcher row = Pattern.compile("\\| `(\\w+Test)` \\|").matcher(readme);
        while (row.find()) {
            Checks.due("there is " + row.group(1), Files.exists(Path.of("src/test/java", row.group(1) + ".java")), true);
        }
    }

    private static String readme() throws IOException {
        return Files.readString(Path.of("README.md"));
    }

    private static List<String> javaLines() throws IOException {
        List<String> lines = new ArrayList<>();
        boolean inside = false;
        for (String line : readme().lines().toList()) {
            if (line.startsWith("```")) {
                inside = line.equals("```java");
            } else if (inside) {
                lines.add(line);
            }
        }
        return lines;
    }

    /** The lines as a program that keeps for each call its text, its answer and the one that stands behind it. */
    private static String program(List<String> lines) {
        StringBuilder text = new StringBuilder();
        text.append("public final class ").append(EXAMPLE).append(" {\n")
            .append("static Object[] row(String call, long got, long want) { return new Object[] {call, got, want}; }\n")
            .append("static Object[] row(String call, boolean got, boolean want) { return row(call, got ? 1 : 0, want ? 1 : 0); }\n")
            .append("public static java.util.List<Object[]> rows() {\n")
            .append("java.util.List<Object[]> rows = new java.util.ArrayList<>();\n");
        for (String line : lines) {
            text.append(withAnswerKept(line)).append('\n');
        }
        return text.append("return rows;\n}\n}\n").toString();
    }

    private static String withAnswerKept(String line) {
        Matcher call = CALL_WITH_ANSWER.matcher(line);
        if (!call.matches()) {
            Checks.due("a call without its answer: " + line, line.contains("town."), false);
            return line;
        }
        String answer = call.group(2);
        String want = Character.isUpperCase(answer.charAt(0)) ? "ScrollTown." + answer : answer;
        return "rows.add(row(\"" + call.group(1) + "\", " + call.group(1) + ", " + want + "));";
    }

    private static void compileAndRun(String program, Path folder) throws Exception {
        Path file = folder.resolve(EXAMPLE + ".java");
        Files.writeString(file, program);
        int exit = ToolProvider.getSystemJavaCompiler().run(null, System.out, System.out,
            "-cp", System.getProperty("java.class.path"), "-d", folder.toString(), file.toString());
        Checks.due("compiling the example", exit, 0);
        if (exit != 0) {
            return;
        }
        try (URLClassLoader loader = new URLClassLoader(new URL[] {folder.toUri().toURL()})) {
            List<?> rows = (List<?>) loader.loadClass(EXAMPLE).getMethod("rows").invoke(null);
            Checks.due("calls of the example beyond 512", rows.size() > 512, false);
            for (Object row : rows) {
                Object[] parts = (Object[]) row;
                Checks.due((String) parts[0], (Long) parts[1], (Long) parts[2]);
            }
        }
    }

    private static void delete(Path folder) throws IOException {
        try (Stream<Path> files = Files.walk(folder)) {
            for (Path file : files.sorted(Comparator.reverseOrder()).toList()) {
                Files.delete(file);
            }
        }
    }
}
