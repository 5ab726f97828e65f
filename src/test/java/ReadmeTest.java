import java.io.IOException;
import java.lang.reflect.InvocationTargetException;
import java.net.URL;
import java.net.URLClassLoader;
import java.nio.file.Files;
import java.nio.file.Path;
import java.util.Set;
import java.util.TreeSet;
import java.util.regex.Matcher;
import java.util.regex.Pattern;
import javax.tools.ToolProvider;

/** Whether the lines of README.md that show how to use the class answer what stands behind them. */
public final class ReadmeTest {
    private static final Pattern BLOCK = Pattern.compile("(?s)```java\n(.*?)```");
    private static final Pattern LINE = Pattern.compile("(int \\w+ = )?(.*); +// (-?\\d+)\\b.*");
    private static final Pattern CALL = Pattern.compile("\\bcity\\.(\\w+)\\(");
    private static final Check CHECK = new Check();

    private ReadmeTest() {
    }

    public static void main(String[] args) throws Exception {
        Path readme = Path.of(System.getProperty("source")).resolve("../../../../README.md").normalize();
        String text = Files.readString(readme);
        StringBuilder lines = new StringBuilder();
        for (Matcher block = BLOCK.matcher(text); block.find();) {
            lines.append(block.group(1));
        }
        CHECK.promise("README.md");
        run(lines.toString());
        everyCallIsShown(lines.toString());
        CHECK.due("it tells how to run the tests", text.contains("    .ci/run\n") ? 1 : 0, 1);
        CHECK.end();
    }

    /** Called by the lines of README.md. */
    public static void due(String line, int got, int want) {
        CHECK.due(line, got, want);
    }

    private static String checked(String line) {
        Matcher told = LINE.matcher(line);
        if (!told.matches()) {
            return line;
        }
        String call = told.group(2).replace("\"", "'").replace("\\", "");
        if (told.group(1) == null) {
            return "ReadmeTest.due(\"" + call + "\", " + told.group(2) + ", " + told.group(3) + ");";
        }
        String name = told.group(1).substring(4, told.group(1).length() - 3);
        return told.group(1) + told.group(2) + "; ReadmeTest.due(\"" + call + "\", " + name + ", " + told.group(3) + ");";
    }

    private static void run(String lines) throws IOException, ReflectiveOperationException {
        StringBuilder program = new StringBuilder("public class Shown {\n    public static void run() {\n");
        for (String line : lines.split("\n")) {
            program.append(checked(line)).append('\n');
        }
        Path folder = Files.createTempDirectory("readme");
        Path file = folder.resolve("Shown.java");
        Files.writeString(file, program.append("    }\n}\n").toString());
        String[] flags = {"-d", folder.toString(), "-cp", System.getProperty("java.class.path"), file.toString()};
        CHECK.due("the lines compile", ToolProvider.getSystemJavaCompiler().run(null, null, null, flags), 0);
        try (URLClassLoader loader = new URLClassLoader(new URL[] {folder.toUri().toURL()})) {
            loader.loadClass("Shown").getMethod("run").invoke(null);
        } catch (InvocationTargetException e) {
            CHECK.due("the lines throw " + e.getCause(), 1, 0);
        }
        Files.deleteIfExists(folder.resolve("Shown.class"));
        Files.delete(file);
        Files.delete(folder);
    }

    private static void everyCallIsShown(String lines) {
        Set<String> shown = new TreeSet<>();
        for (Matcher call = CALL.matcher(lines); call.find();) {
            shown.add(call.group(1));
        }
        for (var method : HackneyStands.class.getDeclaredMethods()) {
            if (java.lang.reflect.Modifier.isPublic(method.getModifiers())) {
                CHECK.due(method.getName() + " is shown", shown.contains(method.getName()) ? 1 : 0, 1);
            }
        }
    }
}
