import java.io.File;
import java.io.IOException;
import java.lang.reflect.Method;
import java.lang.reflect.Modifier;
import java.net.URL;
import java.net.URLClassLoader;
import java.nio.file.Files;
import java.nio.file.Path;
import java.util.regex.Matcher;
import java.util.regex.Pattern;
import javax.tools.JavaCompiler;
import javax.tools.ToolProvider;

/** README.md: its examples are run, and it leaves out no call and no test. */
public final class ReadmeTest {
    private static final Checks CHECKS = new Checks();
    private static final Pattern EXAMPLE = Pattern.compile("```java\n(.*?)```", Pattern.DOTALL);
    // A call whose comment begins with a number and a colon: the answer that the page tells.
    private static final Pattern TOLD = Pattern.compile("(?m)^(\\w+\\.\\w+\\([^;]*\\)); *// (\\d+): (.*)$");

    private final Path room;

    private ReadmeTest(Path room) {
        this.room = room;
    }

    public static void main(String[] args) throws Exception {
        String page = Files.readString(Path.of("README.md"));
        Path room = Files.createTempDirectory("readme");
        try {
            new ReadmeTest(room).runExamples(page);
        } finally {
            empty(room.toFile());
        }
        namesEveryCall(page);
        namesEveryTest(page);
        CHECKS.end("ReadmeTest");
    }

    private void runExamples(String page) throws Exception {
        Matcher example = EXAMPLE.matcher(page);
        int count = 0;
        while (example.find()) {
            count++;
            String name = "Example" + count;
            int answers = (int) TOLD.matcher(example.group(1)).results().count();
            CHECKS.same("example " + count + " tells answers", answers > 0 ? 1 : 0, 1);
            runExample(name, example.group(1));
        }
        CHECKS.same("examples", count, 2);
    }

    /** Each answer that the page tells becomes one that the example hands on if it is another one. */
    private void runExample(String name, String lines) throws Exception {
        String body = TOLD.matcher(lines).replaceAll("if ($1 != $2) wrong += \"$1 is \" + $1 + \", told is $2. \";");
        Path source = room.resolve(name + ".java");
        Files.writeString(source, "public class " + name + " { public static String wrong() { String wrong = \"\";\n"
            + body + "return wrong; } }\n");
        JavaCompiler compiler = ToolProvider.getSystemJavaCompiler();
        String path = System.getProperty("java.class.path");
        int refused = compiler.run(null, null, null, "-cp", path, "-d", room.toString(), source.toString());
        CHECKS.same(name + " is refused by the compiler", refused, 0);
        if (refused == 0) {
            try (URLClassLoader loader = new URLClassLoader(new URL[] {room.toUri().toURL()})) {
                Object wrong = loader.loadClass(name).getMethod("wrong").invoke(null);
                CHECKS.same(name, String.valueOf(wrong), "");
            }
        }
    }

    private static void namesEveryCall(String page) {
        for (Method method : FaxFilter.class.getDeclaredMethods()) {
            if (Modifier.isPublic(method.getModifiers())) {
                boolean isNamed = Pattern.compile("(?m)^\\|.*`" + method.getName() + "\\(.*\\|.*\\|$").matcher(page).find();
                CHECKS.same("the page's table names " + method.getName(), isNamed ? 1 : 0, 1);
            }
        }
    }

    private static void namesEveryTest(String page) throws IOException {
        File[] files = new File("src/test/java").listFiles((folder, name) -> name.endsWith("Test.java"));
        CHECKS.same("there are tests", files == null || files.length == 0 ? 0 : 1, 1);
        for (File file : files) {
            String name = file.getName().replace(".java", "");
            CHECKS.same("the page names " + name, page.contains("| `" + name + "` |") ? 1 : 0, 1);
        }
    }

    private static void empty(File folder) {
        for (File file : folder.listFiles()) {
            file.delete();
        }
        folder.delete();
    }
}
