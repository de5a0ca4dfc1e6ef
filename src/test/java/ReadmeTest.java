import java.io.File;
import java.lang.reflect.Method;
import java.net.URL;
import java.net.URLClassLoader;
import java.nio.charset.StandardCharsets;
import java.nio.file.Files;
import java.nio.file.Path;
import java.util.ArrayList;
import java.util.List;
import java.util.regex.Matcher;
import java.util.regex.Pattern;
import javax.tools.JavaCompiler;
import javax.tools.ToolProvider;

/** The examples of README.md, as they stand there; a number behind // is the answer that is due. */
public final class ReadmeTest {
    private static final Path README = Path.of("README.md");
    private static final Pattern ASKED = Pattern.compile("(x\\.(\\w+)\\(.*\\));\\s*// (-?\\d+)\\b.*");
    private static final int LEAST_ASKED = 20;

    private static int asked = 0;
    private static int wrong = 0;

    public static void main(String[] args) throws Exception {
        Path folder = Files.createTempDirectory("readme");
        Path source = folder.resolve("Readme.java");
        try {
            Files.writeString(source, classOf(Files.readAllLines(README, StandardCharsets.US_ASCII)), StandardCharsets.US_ASCII);
            compileAndRun(folder, source);
        } finally {
            Files.deleteIfExists(folder.resolve("Readme.class"));
            Files.deleteIfExists(source);
            Files.deleteIfExists(folder);
        }
        if (asked < LEAST_ASKED) {
            wrong++;
            System.out.println("README.md has " + asked + " answers alone");
        }
        System.out.println(wrong == 0 ? asked + " answers are as README.md says" : wrong + " are not as README.md says");
        if (wrong != 0) {
            System.exit(1);
        }
    }

    /** Called by what README.md becomes. */
    public static void due(String call, long got, long want) {
        asked++;
        if (got != want) {
            wrong++;
            System.out.println("README.md: " + call + " answered " + got + ", it says " + want);
        }
    }

    /** A block that begins with "static" is a method, the others come one behind another in one. */
    private static String classOf(List<String> lines) {
        StringBuilder methods = new StringBuilder();
        StringBuilder calls = new StringBuilder();
        List<String> block = null;
        for (String line : lines) {
            if (line.startsWith("```")) {
                if (block != null && !block.isEmpty()) {
                    StringBuilder to = block.get(0).startsWith("static") ? methods : calls;
                    block.forEach(l -> to.append(checked(l)).append('\n'));
                }
                block = line.equals("```java") ? new ArrayList<>() : null;
            } else if (block != null) {
                block.add(line);
            }
        }
        return "public class Readme {\n" + methods + "public static void run() {\n" + calls + "}\n}\n";
    }

    private static String checked(String line) {
        Matcher matcher = ASKED.matcher(line.strip());
        if (!matcher.matches()) {
            return line;
        }
        String call = matcher.group(1);
        return "ReadmeTest.due(\"" + call.replace("\\", "\\\\").replace("\"", "\\\"") + "\", " + call + ", " + matcher.group(3) + "L);";
    }

    private static void compileAndRun(Path folder, Path source) throws Exception {
        String own = new File(ReadmeTest.class.getProtectionDomain().getCodeSource().getLocation().toURI()).getPath();
        JavaCompiler compiler = ToolProvider.getSystemJavaCompiler();
        int result = compiler.run(null, null, null, "-cp", own, "-d", folder.toString(), source.toString());
        if (result != 0) {
            wrong++;
            System.out.println("the examples of README.md do not compile");
            return;
        }
        try (URLClassLoader loader = new URLClassLoader(new URL[] {folder.toUri().toURL()}, ReadmeTest.class.getClassLoader())) {
            Method run = loader.loadClass("Readme").getMethod("run");
            run.invoke(null);
        }
    }
}
