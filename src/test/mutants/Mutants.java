import java.io.IOException;
import java.io.PrintStream;
import java.lang.reflect.Method;
import java.net.URL;
import java.net.URLClassLoader;
import java.nio.file.Files;
import java.nio.file.Path;
import java.util.ArrayList;
import java.util.Comparator;
import java.util.List;
import java.util.Set;
import java.util.TreeSet;
import java.util.stream.Stream;
import javax.tools.JavaCompiler;
import javax.tools.ToolProvider;

/**
 * Breaks the program in one place after the other, as mutants.txt tells, and looks whether the test
 * fails that mutants.txt names. Arguments: the program, mutants.txt, the directory of the compiled
 * tests, a directory for what is compiled here.
 */
public final class Mutants {
    private final String source;
    private final Path tests;
    private final Path room;
    private final JavaCompiler compiler = ToolProvider.getSystemJavaCompiler();
    private int count;
    private int alive;

    private Mutants(String[] args) throws IOException {
        String text = Files.readString(Path.of(args[0]));
        source = text.replaceAll("(?s)/\\*.*?\\*/", " ").replaceAll("//[^\n]*", " ").replaceAll("\\s+", " ");
        tests = Path.of(args[2]);
        room = Path.of(args[3]);
    }

    public static void main(String[] args) throws Exception {
        Mutants mutants = new Mutants(args);
        Set<String> named = new TreeSet<>();
        for (String block : Files.readString(Path.of(args[1])).split("\n\n+")) {
            if (!block.startsWith("#")) {
                String[] lines = block.split("\n");
                named.add(lines[0]);
                mutants.judge(lines[0], lines[1], lines.length > 2 ? lines[2] : "");
            }
        }
        System.out.println(mutants.count + " mutants of " + named.size() + " tests, " + mutants.alive + " not noticed");
        System.exit(mutants.alive == 0 ? 0 : 1);
    }

    private void judge(String test, String words, String instead) throws Exception {
        count++;
        int at = source.indexOf(words);
        if (at < 0 || source.indexOf(words, at + 1) >= 0) {
            complain(test, words, "stands in the program not once, but " + (at < 0 ? "never" : "more often"));
            return;
        }
        Path own = Files.createDirectories(room.resolve("m" + count));
        Path file = own.resolve("FaxFilter.java");
        Files.writeString(file, source.substring(0, at) + instead + source.substring(at + words.length()));
        if (compiler.run(null, null, null, "-nowarn", "-d", own.toString(), file.toString()) != 0) {
            complain(test, words, "does not compile with: " + instead);
            return;
        }
        // The mutant's own classes come first, before those that the tests were compiled with.
        List<URL> urls = List.of(own.toUri().toURL(), tests.toUri().toURL());
        try (URLClassLoader loader = new URLClassLoader(urls.toArray(new URL[0]), null)) {
            String name = test.substring(0, test.indexOf('.'));
            Method failing = loader.loadClass("Edges").getDeclaredMethod("failing", Class.class);
            failing.setAccessible(true);
            PrintStream out = System.out;
            System.setOut(new PrintStream(PrintStream.nullOutputStream()));
            Object names = failing.invoke(null, loader.loadClass(name));
            System.setOut(out);
            if (!((List<?>) names).contains(test.substring(name.length() + 1))) {
                complain(test, words, "is not noticed by it, but by " + names + ": " + instead);
            }
        }
        delete(own);
    }

    private void complain(String test, String words, String what) {
        alive++;
        System.out.println(test + ": " + words + "\n    " + what);
    }

    private static void delete(Path directory) throws IOException {
        List<Path> paths = new ArrayList<>();
        try (Stream<Path> walk = Files.walk(directory)) {
            walk.sorted(Comparator.reverseOrder()).forEach(paths::add);
        }
        for (Path path : paths) {
            Files.delete(path);
        }
    }
}
