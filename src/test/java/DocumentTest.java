import java.io.IOException;
import java.nio.file.Files;
import java.nio.file.Path;
import java.util.List;

/**
 * Every Sentence of a test stands in the document, and every word of "Terms" and of the promises
 * stands in the Sentence of a test: none was forgotten, and a document that changes is noticed.
 */
public final class DocumentTest {
    private static final Checks CHECKS = new Checks();
    private static final List<Class<? extends Edges>> TESTS =
        List.of(CallEdgesTest.class, TermsEdgesTest.class, ReadEdgesTest.class);

    public static void main(String[] args) throws IOException {
        String whole = Files.readString(Path.of("../shared/DOC.md"));
        String promised = whole.substring(whole.indexOf("## Terms"), whole.indexOf("## Not promised"));
        String text = plain(promised);
        StringBuilder left = new StringBuilder(text);
        for (Class<? extends Edges> tests : TESTS) {
            Edges.testsOf(tests).forEach(method -> {
                for (String words : method.getAnnotation(Sentence.class).value()) {
                    CHECKS.same("in the document: " + words, plain(whole).indexOf(words) >= 0 ? 1 : 0, 1);
                    strike(left, text, words);
                }
            });
        }
        String forgotten = left.toString().replaceAll("[^A-Za-z0-9]+", " ").strip();
        CHECKS.same("words of the document without a test", forgotten, "");
        CHECKS.end("DocumentTest");
    }

    /** Without headings, fences and line ends. */
    private static String plain(String text) {
        return text.replaceAll("(?m)^(##.*|```.*)$", "").replaceAll("\\s+", " ");
    }

    private static void strike(StringBuilder left, String text, String words) {
        for (int at = text.indexOf(words); at >= 0; at = text.indexOf(words, at + 1)) {
            left.replace(at, at + words.length(), "_".repeat(words.length()));
        }
    }
}
