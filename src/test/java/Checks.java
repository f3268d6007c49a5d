import java.util.function.IntSupplier;

/** Counts what is not as due, for tests that end with exit code 1 if there was anything. */
final class Checks {
    /** What a call answered that threw: its exception's class stands for it. */
    static final int AIOOBE = -1001;
    static final int IAE = -1002;
    static final int UOE = -1003;
    static final int OTHER = -1004;

    private int made;
    private int wrong;

    void same(String what, long got, long due) {
        made++;
        if (got != due) {
            wrong++;
            if (wrong <= 40) {
                System.out.println(what + ": got " + got + ", due is " + due);
            }
        }
    }

    void same(String what, String got, String due) {
        made++;
        if (!got.equals(due)) {
            wrong++;
            if (wrong <= 40) {
                System.out.println(what + ":\n  got    " + got + "\n  due is " + due);
            }
        }
    }

    int made() {
        return made;
    }

    boolean areAllRight() {
        return wrong == 0;
    }

    /** The answer of a call, or the number that stands for exactly the exception that it threw. */
    static int answer(IntSupplier call) {
        try {
            return call.getAsInt();
        } catch (RuntimeException e) {
            return e.getClass() == ArrayIndexOutOfBoundsException.class ? AIOOBE
                : e.getClass() == IllegalArgumentException.class ? IAE
                : e.getClass() == UnsupportedOperationException.class ? UOE : OTHER;
        }
    }

    static int answer(Runnable call) {
        return answer(() -> {
            call.run();
            return 0;
        });
    }

    void end(String name) {
        System.out.println(name + ": " + made + " checks, " + wrong + " wrong");
        if (wrong != 0 || made == 0) {
            System.exit(1);
        }
    }
}
