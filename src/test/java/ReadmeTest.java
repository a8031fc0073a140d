import java.io.IOException;
import java.net.URL;
import java.net.URLClassLoader;
import java.nio.file.Files;
import java.nio.file.Path;
import java.util.Comparator;
import java.util.List;
import java.util.TreeSet;
import java.util.regex.Matcher;
import java.util.regex.Pattern;
import java.util.stream.Stream;
import javax.tools.ToolProvider;

/** Each call of README.md's example answers what stands behind it, and README.md names what it must. */
public final class ReadmeTest {
    private static final Pattern BLOCK = Pattern.compile("(?s)```java\n(.*?)```");
    private static final Pattern CALL = Pattern.compile("(?:int (\\w+) = )?(sums\\.(\\w+)\\(.*\\)); +// (-?\\w+)(:.*)?");
    private static final String METHODS = "again choose count end fault feed got image name on read set sets sheet span"
        + " take tells thing ways write written";

    private static int wrong = 0;

    public static void main(String[] args) throws Exception {
        Path root = Path.of(args.length > 0 ? args[0] : ".");
        String readme = Files.readString(root.resolve("README.md"));
        Matcher block = BLOCK.matcher(readme);
        due("an example in Java", block.find(), true);
        runExample(block.group(1));
        for (String method : METHODS.split(" ")) {
            due("names " + method, Pattern.compile("\\b" + method + "\\(").matcher(readme).find(), true);
        }
        for (String part : List.of("src/test/java", "src/test/support")) {
            dueAllNamed(readme, root.resolve(part));
        }
        due("says how to run the tests", readme.contains(".ci/run"), true);
        System.out.println(wrong == 0 ? "README.md says what is so" : wrong + " things in README.md are not so");
        if (wrong != 0) {
            System.exit(1);
        }
    }

    /** For the example's own class, too. */
    public static void due(String what, Object got, Object want) {
        if (!got.equals(want)) {
            wrong++;
            System.out.println("README.md: " + what + ": " + got + ", due is " + want);
        }
    }

    private static void dueAllNamed(String readme, Path folder) throws IOException {
        TreeSet<String> missing = new TreeSet<>();
        try (Stream<Path> files = Files.list(folder)) {
            files.map(file -> file.getFileName().toString().replace(".java", "")).forEach(missing::add);
        }
        missing.removeIf(name -> readme.contains("`" + name + "`"));
        due("files that it does not name", missing.toString(), "[]");
    }

    private static void runExample(String example) throws Exception {
        StringBuilder body = new StringBuilder();
        int calls = 0;
        for (String line : example.split("\n")) {
            Matcher call = CALL.matcher(line);
            if (call.matches()) {
                calls++;
                body.append(call.group(1) == null ? "" : "int " + call.group(1) + " = " + call.group(4) + "; ");
                body.append("ReadmeTest.due(\"").append(call.group(3)).append(", call ").append(calls).append("\", ");
                body.append(call.group(2)).append(", ").append(call.group(4)).append(");\n");
            } else {
                due("a line without an answer: " + line, line.matches("|//.*|SumsInWords sums = new SumsInWords\\(\\);"), true);
                body.append(line).append('\n');
            }
        }
        due("calls in the example", calls > 20, true);
        compileAndRun("public class Example { public static void run() {\n" + body + "} }\n");
    }

    private static void compileAndRun(String program) throws Exception {
        Path folder = Files.createTempDirectory("readme");
        try {
            Path file = Files.writeString(folder.resolve("Example.java"), program);
            int code = ToolProvider.getSystemJavaCompiler().run(null, null, null, "-cp",
                System.getProperty("java.class.path"), "-d", folder.toString(), file.toString());
            due("the example compiles", code, 0);
            if (code == 0) {
                try (URLClassLoader loader = new URLClassLoader(new URL[] {folder.toUri().toURL()})) {
                    loader.loadClass("Example").getMethod("run").invoke(null);
                }
            }
        } finally {
            try (Stream<Path> files = Files.walk(folder)) {
                files.sorted(Comparator.reverseOrder()).forEach(path -> path.toFile().delete());
            }
        }
    }
}
