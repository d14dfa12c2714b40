import java.io.File;
import java.io.IOException;
import java.nio.file.Files;
import java.nio.file.Path;
import java.util.List;
import javax.tools.ToolProvider;

/**
 * The class with very little room for the list of matches and for what was counted, so that all that has no
 * room is sought again: it must answer the runs of the model and of the matches just so.
 */
public final class SmallRoomTest {
    private static final String[][] ROOMS = {
        {"FIRST_FINDS = 128", "FIRST_FINDS = 2"}, {"FIRST_ENTRIES = 1024", "FIRST_ENTRIES = 40"},
        {"LARGEST_ENTRIES = 262144", "LARGEST_ENTRIES = 40"}, {"MOST_REMEMBERED = 1024", "MOST_REMEMBERED = 3"}};

    private static String smaller(String source) {
        String text = source;
        for (String[] room : ROOMS) {
            int at = text.indexOf(room[0]);
            if (at < 0 || text.indexOf(room[0], at + 1) >= 0) {
                System.out.println("the class has not one " + room[0]);
                System.exit(1);
            }
            text = text.replace(room[0], room[1]);
        }
        return text;
    }

    private static void run(Path classes, String... test) throws IOException, InterruptedException {
        List<String> command = new java.util.ArrayList<>();
        command.add(Path.of(System.getProperty("java.home"), "bin", "java").toString());
        command.add("-cp");
        command.add(classes + File.pathSeparator + System.getProperty("java.class.path"));
        command.addAll(List.of(test));
        if (new ProcessBuilder(command).inheritIO().start().waitFor() != 0) {
            System.out.println("wrong with little room: " + String.join(" ", test));
            System.exit(1);
        }
    }

    private static void delete(Path directory) throws IOException {
        for (File file : directory.toFile().listFiles()) {
            Files.delete(file.toPath());
        }
        Files.delete(directory);
    }

    public static void main(String[] arguments) throws IOException, InterruptedException {
        Path classes = Files.createTempDirectory("small");
        Path source = classes.resolve("SaturnalGraph.java");
        Files.writeString(source, smaller(Files.readString(Path.of("src/main/java/SaturnalGraph.java"))));
        if (ToolProvider.getSystemJavaCompiler().run(null, null, null, "-d", classes.toString(), source.toString()) != 0) {
            System.exit(1);
        }
        run(classes, "ModelTest", "250", "500");
        run(classes, "MatchTest");
        delete(classes);
    }
}
