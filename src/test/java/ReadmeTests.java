import java.io.IOException;
import java.lang.invoke.MethodHandles;
import java.lang.reflect.Method;
import java.lang.reflect.Modifier;
import java.nio.file.Files;
import java.nio.file.Path;
import java.util.ArrayList;
import java.util.List;
import java.util.regex.Matcher;
import java.util.regex.Pattern;
import javax.tools.ToolProvider;

/**
 * What README.md shows is so: the calls under "Use" are taken from the file itself, made into a
 * program, and asked; and the tests that are there are the ones that it tells of.
 */
public final class ReadmeTests {
    private static final Path README = Path.of("README.md");
    private static final Path TESTS = Path.of("src", "test", "java");
    private static final Path CI = Path.of(".ci", "run");
    private static final String PROGRAM = "ReadmeUse";
    /** "statement; // answer: words", the words or both of the last ones left out. */
    private static final Pattern LINE = Pattern.compile("(\\S.*);(?:\\s*// ([^:]+)(?:: .*)?)?");

    private ReadmeTests() {
    }

    public static void main(String[] args) throws Exception {
        List<String> use = linesUnderUse(Files.readAllLines(README));
        eachMethodIsShown(use);
        run(programOf(use));
        testsAreTold(Files.readString(README));
        Check.end();
    }

    /** The lines of Java under the heading, without the empty ones and those of words alone. */
    private static List<String> linesUnderUse(List<String> readme) {
        int heading = readme.indexOf("## Use");
        List<String> behind = readme.subList(heading + 1, readme.size());
        int from = behind.indexOf("```java");
        int to = behind.indexOf("```");
        Check.due("README.md shows Java under \"## Use\"", true, heading >= 0 && from >= 0 && to > from);
        List<String> lines = new ArrayList<>();
        for (String line : behind.subList(from + 1, to)) {
            if (!line.isBlank() && !line.startsWith("//")) {
                lines.add(line);
            }
        }
        return lines;
    }

    private static void eachMethodIsShown(List<String> use) {
        for (Method method : GridSums.class.getDeclaredMethods()) {
            if (Modifier.isPublic(method.getModifiers())) {
                String call = "sums." + method.getName() + "(";
                Check.due("README.md shows " + call, true, use.stream().anyMatch(line -> line.startsWith(call)));
            }
        }
    }

    private static String programOf(List<String> use) {
        StringBuilder program = new StringBuilder("final class " + PROGRAM + " {\n    static void ask() {\n");
        for (String line : use) {
            Matcher parts = LINE.matcher(line);
            Check.due("a line of README.md's form: " + line, true, parts.matches());
            program.append("        ").append(statementOf(parts.group(1), parts.group(2))).append('\n');
        }
        return program.append("    }\n}\n").toString();
    }

    private static String statementOf(String code, String answer) {
        if (answer == null) {
            boolean hasNoAnswer = code.startsWith("GridSums sums = ") || code.equals("sums.clear()");
            Check.due("README.md gives an answer for " + code, true, hasNoAnswer);
            return code + ";";
        }
        String call = "\"README.md: " + code + "\"";
        if (answer.startsWith("throws ")) {
            String exception = answer.substring("throws ".length());
            return "Check.dueThrow(" + call + ", \"" + exception + "\", () -> " + code + ");";
        }
        return "Check.due(" + call + ", " + answer + ", " + code + ");";
    }

    /** In this class's own package, where Check is. */
    private static void run(String program) throws Exception {
        Path room = Files.createTempDirectory("readme");
        Path source = room.resolve(PROGRAM + ".java");
        Path compiled = room.resolve(PROGRAM + ".class");
        try {
            Files.writeString(source, program);
            int failed = ToolProvider.getSystemJavaCompiler().run(null, System.out, System.out,
                "-d", room.toString(), "-cp", System.getProperty("java.class.path"), source.toString());
            Check.due("README.md's use compiles", 0, failed);
            if (failed == 0) {
                Class<?> use = MethodHandles.lookup().defineClass(Files.readAllBytes(compiled));
                use.getDeclaredMethod("ask").invoke(null);
            }
        } finally {
            Files.deleteIfExists(source);
            Files.deleteIfExists(compiled);
            Files.deleteIfExists(room);
        }
    }

    private static void testsAreTold(String readme) throws IOException {
        Check.due("README.md tells of .ci/run", true, readme.contains("\n.ci/run\n"));
        Check.due(".ci/run can be run", true, Files.isExecutable(CI));
        try (var files = Files.newDirectoryStream(TESTS, "*.java")) {
            for (Path file : files) {
                String name = file.getFileName().toString().replace(".java", "");
                Check.due("README.md tells of " + name, true, readme.contains("`" + name + "`"));
            }
        }
    }
}
