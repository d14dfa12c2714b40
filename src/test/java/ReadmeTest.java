import java.io.File;
import java.io.IOException;
import java.lang.reflect.Method;
import java.net.URL;
import java.net.URLClassLoader;
import java.nio.file.Files;
import java.nio.file.Path;
import java.util.regex.Matcher;
import java.util.regex.Pattern;
import javax.tools.ToolProvider;

/** README.md: its example must answer as its comments say, and each call and each test must be told there. */
public final class ReadmeTest {
    private static final Pattern ANSWER =
            Pattern.compile("(?:int|char|boolean) (\\w+) = x\\..*; +// ('.'|-?\\d+|true|false)(?::.*)?");
    private static int wrong = 0;

    private static void complain(String text) {
        wrong++;
        System.out.println("README.md: " + text);
    }

    private static String between(String text, String start, String end) {
        int from = text.indexOf(start);
        int to = from < 0 ? -1 : text.indexOf(end, from + start.length());
        if (to < 0) {
            complain("there is no " + start.trim());
            return "";
        }
        return text.substring(from + start.length(), to);
    }

    /** A class that does the example and tells which of its answers are others than its comments say. */
    private static String program(String example) {
        StringBuilder code = new StringBuilder("public final class Example {\npublic static String run() {\n");
        code.append("StringBuilder wrong = new StringBuilder();\n");
        int answers = 0;
        for (String line : example.split("\n")) {
            code.append(line).append('\n');
            Matcher m = ANSWER.matcher(line.trim());
            if (m.matches()) {
                answers++;
                code.append("if (").append(m.group(1)).append(" != ").append(m.group(2)).append(") wrong.append(\"")
                        .append(m.group(1)).append(" is \" + ").append(m.group(1)).append(" + \"; \");\n");
            }
        }
        if (answers < 15) {
            complain("the example has but " + answers + " answers");
        }
        return code.append("return wrong.toString();\n}\n}\n").toString();
    }

    private static void runExample(String example) throws IOException, ReflectiveOperationException {
        Path directory = Files.createTempDirectory("readme");
        Path source = directory.resolve("Example.java");
        Files.writeString(source, program(example));
        int failed = ToolProvider.getSystemJavaCompiler().run(null, null, null, "-cp",
                System.getProperty("java.class.path"), "-d", directory.toString(), source.toString());
        if (failed != 0) {
            complain("the example does not compile");
        } else {
            try (URLClassLoader loader = new URLClassLoader(new URL[] {directory.toUri().toURL()})) {
                String answer = (String) loader.loadClass("Example").getMethod("run").invoke(null);
                if (!answer.isEmpty()) {
                    complain("in the example " + answer);
                }
            }
        }
        for (File file : directory.toFile().listFiles()) {
            Files.delete(file.toPath());
        }
        Files.delete(directory);
    }

    /** Each call must stand there with the names that the document has for what it takes. */
    private static void checkCalls(String readme, String face) {
        int calls = 0;
        Matcher m = Pattern.compile("public \\w+ (\\w+)\\(([^)]*)\\)[^;]*;").matcher(face);
        while (m.find()) {
            calls++;
            String names = m.group(2).replaceAll("(?:int|char) ", "");
            if (!readme.contains("`" + m.group(1) + "(" + names + ")`")) {
                complain("nothing is told of " + m.group(1));
            }
        }
        int methods = 0;
        for (Method method : SaturnalGraph.class.getMethods()) {
            methods += method.getDeclaringClass() == SaturnalGraph.class ? 1 : 0;
        }
        if (calls != methods) {
            complain("the document has " + calls + " calls, the class " + methods);
        }
    }

    private static void checkTests(String readme) {
        for (File file : new File("src/test/java").listFiles()) {
            String name = file.getName().replace(".java", "");
            if (!readme.contains("`" + name + "`")) {
                complain("nothing is told of the test " + name);
            }
        }
        if (!readme.contains("\n    .ci/run\n") || !new File(".ci/run").canExecute()) {
            complain("nothing is told of .ci/run, or it can't be run");
        }
    }

    public static void main(String[] arguments) throws IOException, ReflectiveOperationException {
        String readme = Files.readString(Path.of("README.md"));
        runExample(between(readme, "```java\n", "```"));
        checkCalls(readme, between(Files.readString(Path.of("../shared/DOC.md")), "public final class SaturnalGraph {", "}\n"));
        checkTests(readme);
        System.out.println("README.md: " + wrong + " wrong");
        if (wrong != 0) {
            System.exit(1);
        }
    }
}
