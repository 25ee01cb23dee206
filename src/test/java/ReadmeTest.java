import java.io.File;
import java.nio.file.Files;
import java.nio.file.Path;
import java.util.ArrayList;
import java.util.List;
import java.util.regex.Matcher;
import java.util.regex.Pattern;
import javax.tools.ToolProvider;

/** The examples of README.md: they are compiled as they stand, and each call answers the number behind it. */
public final class ReadmeTest {
    private static final Pattern BLOCK = Pattern.compile("```java\n(.*?)```", Pattern.DOTALL);
    private static final Pattern ANSWERED = Pattern.compile("(x\\.\\w+\\(.*\\)); +// (-?\\d+)(:.*)?");

    private ReadmeTest() {
    }

    public static void main(String[] args) throws Exception {
        Path root = Path.of(System.getProperty("root", "."));
        Path made = Files.createTempDirectory("readme");
        Path source = made.resolve("Examples.java");
        List<String> untold = new ArrayList<>();
        Files.writeString(source, examples(Files.readString(root.resolve("README.md")), untold));
        untold.forEach(line -> System.out.println("README.md tells no answer: " + line));
        int refused = ToolProvider.getSystemJavaCompiler().run(null, null, null, "-d", made.toString(),
            "-cp", System.getProperty("java.class.path"), source.toString());
        boolean good = refused == 0 && untold.isEmpty() && play(made);
        for (File file : made.toFile().listFiles()) {
            file.delete();
        }
        made.toFile().delete();
        System.out.println(good ? "the examples hold" : "the examples of README.md do not hold");
        System.exit(good ? 0 : 1);
    }

    /** A class of all examples: those that begin an object are played, the others are its methods. */
    private static String examples(String readme, List<String> untold) {
        StringBuilder methods = new StringBuilder();
        StringBuilder plays = new StringBuilder();
        Matcher block = BLOCK.matcher(readme);
        while (block.find()) {
            if (block.group(1).startsWith("OneLine x")) {
                plays.append("{\n").append(checked(block.group(1), untold)).append("}\n");
            } else {
                methods.append(block.group(1));
            }
        }
        return "final class Examples {\nstatic int answers;\nstatic int wrong;\n" + methods
            + "static void due(String call, long got, long want) {\nanswers++;\nif (got != want) {\nwrong++;\n"
            + "System.out.println(call + \" answered \" + got + \", README.md says \" + want);\n}\n}\n"
            + "public static void main(String[] args) {\n" + plays
            + "System.out.println(answers + \" answers, \" + wrong + \" not as README.md says\");\n"
            + "System.exit(wrong == 0 && answers > 0 ? 0 : 1);\n}\n}\n";
    }

    private static String checked(String example, List<String> untold) {
        StringBuilder text = new StringBuilder();
        for (String line : example.split("\n")) {
            Matcher answered = ANSWERED.matcher(line);
            if (answered.matches()) {
                String call = answered.group(1);
                text.append("due(\"").append(call).append("\", ").append(call).append(", ").append(answered.group(2)).append(");\n");
            } else if (line.startsWith("x.")) {
                untold.add(line);
            } else {
                text.append(line.startsWith("put(") ? "due(\"put\", " + line.substring(0, line.length() - 1) + " ? 1 : 0, 1);" : line).append('\n');
            }
        }
        return text.toString();
    }

    private static boolean play(Path made) throws Exception {
        String java = Path.of(System.getProperty("java.home"), "bin", "java").toString();
        String classes = made + File.pathSeparator + System.getProperty("java.class.path");
        return new ProcessBuilder(java, "-cp", classes, "Examples").inheritIO().start().waitFor() == 0;
    }
}
