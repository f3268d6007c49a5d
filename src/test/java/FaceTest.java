import java.io.IOException;
import java.lang.reflect.Constructor;
import java.lang.reflect.Field;
import java.lang.reflect.Method;
import java.lang.reflect.Modifier;
import java.nio.file.Files;
import java.nio.file.Path;
import java.util.Arrays;
import java.util.Set;
import java.util.TreeSet;

/** The public face of the document, no more and no less, and some rules of LANGUAGE.md. */
public final class FaceTest {
    private static final Checks CHECKS = new Checks();

    private static final String[] FACE = {
        "add(long,int) boolean ",
        "bit(int,int) int ArrayIndexOutOfBoundsException",
        "clear() void ",
        "code(boolean,int) int IllegalArgumentException",
        "drop() void ",
        "octet(int) int ArrayIndexOutOfBoundsException",
        "put(int,int,int,boolean) void ArrayIndexOutOfBoundsException,IllegalArgumentException",
        "read(int) int IllegalArgumentException",
        "row() int UnsupportedOperationException",
        "run(int,int) int ArrayIndexOutOfBoundsException",
        "runs(int) int ArrayIndexOutOfBoundsException",
        "setting(int,boolean) void IllegalArgumentException",
        "state(int) int ArrayIndexOutOfBoundsException",
        "take() int ",
        "told(int) int IllegalArgumentException",
        "write() int ",
    };

    // What the rules of the language leave out and a text search can find.
    private static final String[] LEFT_OUT = {
        "import ", "->", "::", "catch", "finally", "synchronized", "assert ", "package ", "Exact(", "static {",
        "double", "float", "System.nanoTime", "new Random", "volatile", "protected", "equals", "hashCode", "toString",
    };

    public static void main(String[] args) throws IOException {
        faceIsTheDocuments();
        othersAreHidden();
        sourceKeepsToTheRules();
        CHECKS.end("FaceTest");
    }

    private static String names(Class<?>[] types) {
        StringBuilder text = new StringBuilder();
        for (Class<?> type : types) {
            text.append(text.length() == 0 ? "" : ",").append(type.getSimpleName());
        }
        return text.toString();
    }

    private static void faceIsTheDocuments() {
        CHECKS.same("class", Modifier.toString(FaxFilter.class.getModifiers()), "public final");
        Set<String> face = new TreeSet<>();
        for (Method method : FaxFilter.class.getDeclaredMethods()) {
            if (!Modifier.isPrivate(method.getModifiers()) && !method.isSynthetic()) {
                CHECKS.same("modifiers of " + method, Modifier.toString(method.getModifiers()), "public");
                face.add(method.getName() + "(" + names(method.getParameterTypes()) + ") "
                    + method.getReturnType().getSimpleName() + " " + names(method.getExceptionTypes()));
            }
        }
        CHECKS.same("face", face.toString(), new TreeSet<>(Arrays.asList(FACE)).toString());
        Constructor<?>[] constructors = FaxFilter.class.getDeclaredConstructors();
        CHECKS.same("constructors", constructors.length, 1);
        CHECKS.same("constructor", constructors[0].toString(), "public FaxFilter(int,int)");
    }

    private static void othersAreHidden() {
        for (Field field : FaxFilter.class.getDeclaredFields()) {
            CHECKS.same("private: " + field, Modifier.isPrivate(field.getModifiers()) ? 1 : 0, 1);
            boolean isFixed = !Modifier.isStatic(field.getModifiers()) || Modifier.isFinal(field.getModifiers());
            CHECKS.same("no static state: " + field, isFixed ? 1 : 0, 1);
        }
        Set<String> open = new TreeSet<>();
        for (String call : FACE) {
            open.add(call.substring(0, call.indexOf('(')));
        }
        for (Class<?> inside : FaxFilter.class.getDeclaredClasses()) {
            CHECKS.same("private static: " + inside, inside.getModifiers() & (Modifier.PRIVATE | Modifier.STATIC),
                Modifier.PRIVATE | Modifier.STATIC);
            for (Method method : inside.getDeclaredMethods()) {
                CHECKS.same("name of its own: " + method, open.contains(method.getName()) ? 1 : 0, 0);
                CHECKS.same("parameters: " + method, method.getParameterCount() <= 7 ? 1 : 0, 1);
            }
        }
    }

    private static void sourceKeepsToTheRules() throws IOException {
        String source = Files.readString(Path.of("src/main/java/FaxFilter.java"));
        for (String left : LEFT_OUT) {
            CHECKS.same("left out: " + left, source.indexOf(left), -1);
        }
        for (int i = 0; i < source.length(); i++) {
            char sign = source.charAt(i);
            CHECKS.same("sign " + (int) sign, sign == '\n' || sign >= 32 && sign < 127 ? 1 : 0, 1);
        }
    }
}
