import java.lang.reflect.Method;
import java.util.ArrayList;
import java.util.Arrays;
import java.util.Comparator;
import java.util.List;

/** Tests of single sentences: each method with a Sentence is one, and is run on its own. */
abstract class Edges extends Promise {
    /** In kind 2, how a first row of 5 white, 5 dark and 10 white places is sent: 12 bits. */
    static final String FIRST = "001 1100 0011 1 ";
    static final int[] FAR = {Integer.MIN_VALUE, Integer.MIN_VALUE + 1, Integer.MAX_VALUE - 1, Integer.MAX_VALUE};

    static List<Method> testsOf(Class<? extends Edges> tests) {
        List<Method> methods = new ArrayList<>();
        for (Method method : tests.getDeclaredMethods()) {
            if (method.isAnnotationPresent(Sentence.class)) {
                methods.add(method);
            }
        }
        methods.sort(Comparator.comparing(Method::getName));
        return methods;
    }

    /** Runs the tests of a class, and answers the names of those that failed. */
    static List<String> failing(Class<? extends Edges> tests) {
        List<String> names = new ArrayList<>();
        for (Method method : testsOf(tests)) {
            if (!holds(tests, method)) {
                names.add(method.getName());
            }
        }
        return names;
    }

    private static boolean holds(Class<? extends Edges> tests, Method method) {
        try {
            Edges test = tests.getDeclaredConstructor().newInstance();
            method.setAccessible(true);
            method.invoke(test);
            return test.checks.areAllRight() && test.checks.made() > 0;
        } catch (ReflectiveOperationException e) {
            System.out.println(method.getName() + ": " + (e.getCause() == null ? e : e.getCause()));
            return false;
        }
    }

    static void run(Class<? extends Edges> tests) {
        List<String> failing = failing(tests);
        System.out.println(tests.getName() + ": " + testsOf(tests).size() + " tests, wrong: " + failing);
        if (!failing.isEmpty() || testsOf(tests).isEmpty()) {
            System.exit(1);
        }
    }

    static String white(int run) {
        return Model.runCode(false, run);
    }

    static String dark(int run) {
        return Model.runCode(true, run);
    }

    static String zeros(int count) {
        return "0".repeat(count);
    }

    /** A picture whose rows are dark between these places. */
    static FaxFilter drawn(int kind, int columns, int[]... rows) {
        FaxFilter filter = filter(kind, columns);
        for (int[] ends : rows) {
            darken(filter, filter.row(), ends);
        }
        return filter;
    }

    static int[] ends(int... ends) {
        return ends;
    }

    /** In kind 2, a row below one of 5 white, 5 dark, 10 white is sent so, and read as it was. */
    void sendsBelow(String bits, int... ends) {
        sendsAndReads(drawn(2, 20, ends(5, 10), ends), FIRST + bits + marks(2));
    }

    /** In kind 2, these bits of a row below one of 5 white, 5 dark, 10 white are read so. */
    void readsBelow(String bits, String row, int passed) {
        FaxFilter filter = filter(2, 20);
        reads(filter, FIRST + bits + marks(2), "5 5 10/0, " + row, 12 + passed, row.endsWith("/3") ? 1 : 0);
    }

    /** The picture is sent so, and what was sent is read as the same picture. */
    void sendsAndReads(FaxFilter filter, String bits) {
        String before = picture(filter);
        writes(filter, bits);
        filter.take();
        filter.read(24);
        checks.same("read back", picture(filter), before);
    }

    /** All that can be asked of an object, as a text. */
    static String held(FaxFilter filter) {
        StringBuilder text = new StringBuilder();
        for (int what = 0; what <= 6; what++) {
            text.append(filter.told(what)).append(' ');
        }
        for (int i = 0; i < filter.told(4); i++) {
            text.append(filter.octet(i)).append(' ');
        }
        for (int row = 0; row < filter.told(2); row++) {
            text.append(filter.bit(row, 0)).append(' ');
        }
        return text.append(picture(filter)).toString();
    }

    /** The call throws what is due, and changes nothing that can be asked. */
    void refuses(FaxFilter filter, String what, int due, Runnable call) {
        String before = held(filter);
        checks.same(what, Checks.answer(call), due);
        checks.same(what + " changes nothing", held(filter), before);
    }

    static int[] join(int[] one, int... more) {
        int[] all = Arrays.copyOf(one, one.length + more.length);
        System.arraycopy(more, 0, all, one.length, more.length);
        return all;
    }
}
